set_option maxHeartbeats 4000000 in
set_option maxRecDepth 100000 in
theorem gpf_feed (l : Launch) (D : va_G) (k : Nat → ClassId) (sz : Nat) (h : Nat) (h_now : Nat) (h_trial : Nat) (h_images : Nat) (h_imageThere : Nat) (h_teller : Nat) (h_ranks : Nat) (h_court : Nat) (h_sheets : Nat) (h_lf : Int32) (h_lt : Int32) (ee_tape : Nat) (ee_draft : Nat) (ee_to : Int32) (ee_fm : Int32) (ee_pl : Int32) (a_bytes : Nat) (a_len : Nat) (a_kd : Int32) (a_st : Nat) (a_be : Nat) (a_va : Int32) (a_f : Nat → Int32) (ch : Int32) (hl160 : a_len ≤ 160) : MI l yX7_feed wsX7_feed ({ frames := 1, cells := 0, slots := 0, locals := 22 }) D k [.ref h, .int ch] [oq6 h h_now h_trial h_images h_imageThere h_teller h_ranks h_court h_sheets h_lf h_lt, oq4 h_teller ee_tape ee_draft ee_to ee_fm ee_pl, oq3 ee_tape a_bytes (nI a_len) a_kd (nI a_st) (nI a_be) a_va, oqI k a_bytes 160 (a_f)] sz (fun (r : Int32) (u : Nat × (Nat → Int32)) => r = A_feedG a_len ch ∧ u.1 = A_feedL a_len ch ∧ u.1 ≤ 160 ∧ u.2 = A_feedT a_f a_len ch) (fun (u : Nat × (Nat → Int32)) => [oq6 h h_now h_trial h_images h_imageThere h_teller h_ranks h_court h_sheets h_lf h_lt, oq4 h_teller ee_tape ee_draft ee_to ee_fm ee_pl, oq3 ee_tape a_bytes (nI (u.1)) a_kd (nI a_st) (nI a_be) a_va, oqI k a_bytes 160 (u.2)]) := by
  refine Met.ofW (cc := cX7_feed) (maxL := 3) (ret := (some .int)) hpn_X7 rfl ?_
  intro p e s m args below meth c s₁ B hml hv
  obtain ⟨rfl, hsz, hP, hK, hD0, hN⟩ := hv
  have hx := B.exec
  have hb := B.bytes
  have hr := B.returns
  have hlocks := B.notSynchronized
  have hts := atoms_spec (ws := wsX7_feed) B.pre
  have hown := findClass_of_methodNamed B.named
  have hown : s.vm.findClass RX7 = some m.cls := hown
  have hiX4 : ∀ w ∈ u_ws RX4 TX4 6, w ∈ wsX7_feed := fun w9 hw9 => List.mem_cons_of_mem _ (igX4 w9 hw9)
  have hiX5 : ∀ w ∈ u_ws RX5 TX5 5, w ∈ wsX7_feed := fun w9 hw9 => List.mem_cons_of_mem _ (igX5 w9 hw9)
  have hiX7 : ∀ w ∈ u_ws RX7 TX7 10, w ∈ wsX7_feed := fun w9 hw9 => List.mem_cons_of_mem _ (igX7 w9 hw9)
  have fl30 := hts (.fieldLink RX7 30 "HalfScales" "teller" "LHalfScales$Teller;") (List.mem_cons_of_mem _ (hs_inG 1 219 rfl rfl))
  have fl55 := hts (.fieldLink RX7 55 "HalfScales$Teller" "tape" "LHalfScales$Tape;") (List.mem_cons_of_mem _ (hs_inG 1 151 rfl rfl))
  have fl63 := hts (.fieldLink RX7 63 "HalfScales$Tape" "length" "I") (List.mem_cons_of_mem _ (hs_inG 1 125 rfl rfl))
  have fl69 := hts (.fieldLink RX7 69 "HalfScales$Tape" "bytes" "[I") (List.mem_cons_of_mem _ (hs_inG 1 124 rfl rfl))
  subst hsz
  have hD := hD0.self (sz := s.heap.size)
  generalize hAe : va_A [oq6 h h_now h_trial h_images h_imageThere h_teller h_ranks h_court h_sheets h_lf h_lt, oq4 h_teller ee_tape ee_draft ee_to ee_fm ee_pl, oq3 ee_tape a_bytes (nI a_len) a_kd (nI a_st) (nI a_be) a_va, oqI k a_bytes 160 (a_f)] s.heap.size = A at hD ⊢
  have hA : ∀ q : Nat, s.heap.size ≤ q → A q := fun q h => by rw [← hAe]; exact Or.inr h
  have hS : va_S A s.heap s.heap [] := va_S.rf
  have hl := lv_entry ([.ref h, .int ch]) (n := 3) (Nat.le_of_ble_eq_true rfl)
  rw [lg_entry_eq]
  generalize (lg_sl ([.ref h, .int ch]) ++ List.replicate (3 - (lg_sl ([.ref h, .int ch])).length) Slot.unset).toArray = ls at hl ⊢
  have hl : lv_has ls 3 [(0, .ref h), (1, .int ch)] := hl
  have hP : va_P D vwCl [oq6 h h_now h_trial h_images h_imageThere h_teller h_ranks h_court h_sheets h_lf h_lt, oq4 h_teller ee_tape ee_draft ee_to ee_fm ee_pl, oq3 ee_tape a_bytes (nI a_len) a_kd (nI a_st) (nI a_be) a_va, oqI k a_bytes 160 (a_f)] s.heap := hP
  refine lv_aload_n hx hb dX7_feed_0 rfl (lv_at hl 0 rfl) ?_
  refine va_get (D := D) (ci := 6) (v := .ref h_teller) (C := RX7) (T := TX7) (N := 10) hx hb hts hiX7 hown hK hP 0 rfl rfl 4 (Nat.le_of_ble_eq_true rfl) fl30 (fun _ h9 => h9) rfl dX7_feed_1 ?_
  refine va_get (D := D) (ci := 4) (v := .ref ee_tape) (C := RX5) (T := TX5) (N := 5) hx hb hts hiX5 hown hK hP 1 rfl rfl 0 (Nat.le_of_ble_eq_true rfl) fl55 (fun _ h9 => h9) rfl dX7_feed_4 ?_
  refine lv_astore_n (lv' := [(2, .ref ee_tape), (0, .ref h), (1, .int ch)]) hx hb dX7_feed_7 rfl hl (Nat.le_of_ble_eq_true rfl) rfl (fun ls hl => ?_)
  refine lv_iload_n hx hb dX7_feed_8 rfl (lv_at hl 2 rfl) ?_
  refine lv_iconst (v := 0) hx hb dX7_feed_9 hki_0 ?_
  refine lv_bipush (v := 127) hx hb dX7_feed_10 hkb_127 ?_
  refine hs_pi (va_runS (As := [.int ch, .int 0, .int 127]) (rest := []) ⟨hx, hb, hml, hown, hts⟩ (g_within l D k _ ch 0 127) (va_cwS 3 hts gX7_feed_X7_within rfl rfl rfl hq_X7_within ⟨Nat.le_of_ble_eq_true rfl, Nat.le_of_ble_eq_true rfl⟩) (hs_preS hK hN (hs_subP (w := []) hP [] rfl) (hD.sub (ws' := []) [] rfl rfl)) rfl rfl hl.1 rfl (lv_room (Nat.le_of_ble_eq_true rfl)) dX7_feed_12 ⟨Nat.le_of_ble_eq_true rfl, Nat.le_of_ble_eq_true rfl⟩) hP hD hS hA (fun r_1 u_3 H locs hw_2 hP hS => ?_)
  refine hs_topi (hsb (hsin ch 0 127)) hw_2 ?_
  refine lv_if_ne (tgt := 20) hx hb dX7_feed_15 rfl (fun c_4 => ?_) (fun c_4 => ?_)
  · refine lv_aload_n hx hb dX7_feed_20 rfl (lv_at hl 0 rfl) ?_
    refine va_get (D := D) (ci := 3) (v := .int (nI a_len)) (C := RX4) (T := TX4) (N := 6) hx hb hts hiX4 hown hK hP 2 rfl rfl 1 (Nat.le_of_ble_eq_true rfl) fl63 (fun _ h9 => h9) rfl dX7_feed_21 ?_
    refine lv_sipush (v := 160) hx hb dX7_feed_24 hkp_160 ?_
    refine lv_icmp_lt (tgt := 33) hx hb dX7_feed_27 rfl (fun c_5 => ?_) (fun c_5 => ?_)
    · have nc_5 : a_len < 160 := (nI_ltI (a := a_len) (b := 160) (by omega) (by omega)).mp c_5
      refine lv_aload_n hx hb dX7_feed_33 rfl (lv_at hl 0 rfl) ?_
      refine va_get (D := D) (ci := 3) (v := .ref a_bytes) (C := RX4) (T := TX4) (N := 6) hx hb hts hiX4 hown hK hP 2 rfl rfl 0 (Nat.le_of_ble_eq_true rfl) fl69 (fun _ h9 => h9) rfl dX7_feed_34 ?_
      refine lv_aload_n hx hb dX7_feed_37 rfl (lv_at hl 0 rfl) ?_
      refine va_get (D := D) (ci := 3) (v := .int (nI a_len)) (C := RX4) (T := TX4) (N := 6) hx hb hts hiX4 hown hK hP 2 rfl rfl 1 (Nat.le_of_ble_eq_true rfl) fl63 (fun _ h9 => h9) rfl dX7_feed_38 ?_
      refine lv_iload_n hx hb dX7_feed_41 rfl (lv_at hl 2 rfl) ?_
      refine va_iast hx hb hK hP hD hS 3 0 rfl rfl (vp_in_nI (show a_len < 160 by omega) (by decide)) dX7_feed_42 (fun H locs hP hD hS => ?_)
      have hP : va_P D vwCl [oq6 h h_now h_trial h_images h_imageThere h_teller h_ranks h_court h_sheets h_lf h_lt, oq4 h_teller ee_tape ee_draft ee_to ee_fm ee_pl, oq3 ee_tape a_bytes (nI a_len) a_kd (nI a_st) (nI a_be) a_va, oqI k a_bytes 160 (upd a_f ((nI a_len).toNatClampNeg) ch)] H := hP
      have hD : va_D A [oq6 h h_now h_trial h_images h_imageThere h_teller h_ranks h_court h_sheets h_lf h_lt, oq4 h_teller ee_tape ee_draft ee_to ee_fm ee_pl, oq3 ee_tape a_bytes (nI a_len) a_kd (nI a_st) (nI a_be) a_va, oqI k a_bytes 160 (upd a_f ((nI a_len).toNatClampNeg) ch)] := hD
      refine lv_aload_n hx hb dX7_feed_43 rfl (lv_at hl 0 rfl) ?_
      refine lv_dup hx hb dX7_feed_44 rfl ?_
      refine va_get (D := D) (ci := 3) (v := .int (nI a_len)) (C := RX4) (T := TX4) (N := 6) hx hb hts hiX4 hown hK hP 2 rfl rfl 1 (Nat.le_of_ble_eq_true rfl) fl63 (fun _ h9 => h9) rfl dX7_feed_45 ?_
      refine lv_iconst (v := 1) hx hb dX7_feed_48 hki_1 ?_
      refine lv_iadd hx hb dX7_feed_49 ?_
      refine hs_topi (nI (a_len + 1)) (nI_add (a_len) (1)) ?_
      refine va_put (D := D) (ci := 3) (v := .int (nI (a_len + 1))) (ty := .int) (C := RX4) (T := TX4) (N := 6) hx hb hts hiX4 tyX4 tyX4_ok nmX4 hown hK hP hD hS 2 rfl rfl 1 (Nat.le_of_ble_eq_true rfl) fl63 (fun _ h9 => h9) rfl (by decide +kernel) rfl rfl (Nat.le_of_ble_eq_true rfl) dX7_feed_50 (fun H locs hP hD hS => ?_)
      have hP : va_P D vwCl [_, _, oq3 ee_tape a_bytes (nI (a_len + 1)) a_kd (nI a_st) (nI a_be) a_va, _] H := hP
      have hD : va_D A [_, _, oq3 ee_tape a_bytes (nI (a_len + 1)) a_kd (nI a_st) (nI a_be) a_va, _] := hD
      refine lv_aload_n hx hb dX7_feed_53 rfl (lv_at hl 0 rfl) ?_
      refine va_get (D := D) (ci := 3) (v := .int (nI (a_len + 1))) (C := RX4) (T := TX4) (N := 6) hx hb hts hiX4 hown hK hP 2 rfl rfl 1 (Nat.le_of_ble_eq_true rfl) fl63 (fun _ h9 => h9) rfl dX7_feed_54 ?_
      exact hs_iret hx hb hr hlocks hK hP hD hS (a_len + 1, upd a_f ((nI a_len).toNatClampNeg) ch) [0, 1, 2, 3] rfl (hs_upnd rfl) dX7_feed_57 (⟨by rw [A_feedG, if_pos (hs_nb c_4), if_neg (show ¬ 160 ≤ a_len by omega)], by rw [A_feedL, if_pos (hs_nb c_4), if_neg (show ¬ 160 ≤ a_len by omega)], by (try dsimp only); omega, by (try dsimp only); rw [A_feedT, if_pos (hs_nb c_4), if_neg (show ¬ 160 ≤ a_len by omega), nI_clamp (by omega)]⟩)
    · have nc_5 : ¬ a_len < 160 := fun hq9 => c_5 ((nI_ltI (a := a_len) (b := 160) (by omega) (by omega)).mpr hq9)
      refine lv_bipush (v := (-3)) hx hb dX7_feed_30 hkb_m3 ?_
      exact hs_iret hx hb hr hlocks hK hP hD hS (a_len, a_f) [0, 1, 2, 3] rfl (hs_upnd rfl) dX7_feed_32 (⟨by rw [A_feedG, if_pos (hs_nb c_4), if_pos (show 160 ≤ a_len by omega)], by rw [A_feedL, if_pos (hs_nb c_4), if_pos (show 160 ≤ a_len by omega)], by (try dsimp only); omega, by rw [A_feedT, if_pos (hs_nb c_4), if_pos (show 160 ≤ a_len by omega)]⟩)
  · refine lv_iconst (v := (-1)) hx hb dX7_feed_18 hki_m1 ?_
    exact hs_iret hx hb hr hlocks hK hP hD hS (a_len, a_f) [0, 1, 2, 3] rfl (hs_upnd rfl) dX7_feed_19 (⟨by rw [A_feedG, hs_n0 c_4]; rfl, by rw [A_feedL, hs_n0 c_4]; rfl, by (try dsimp only); omega, by rw [A_feedT, hs_n0 c_4]; rfl⟩)

set_option maxHeartbeats 4000000 in
set_option maxRecDepth 100000 in
theorem gpf_weigh (l : Launch) (D : va_G) (k : Nat → ClassId) (sz : Nat) (h : Nat) (h_now : Nat) (h_trial : Nat) (h_images : Nat) (h_imageThere : Nat) (h_teller : Nat) (h_ranks : Nat) (h_court : Nat) (h_sheets : Nat) (h_lf : Int32) (h_lt : Int32) (n_a : Nat → Nat) (n_N : Nat → Nat) (n_J : Nat → Int32) (n_F : Nat → Nat → Int32) (i : Int32) (v : Int32) (hN0 : thN n_N) (hF : thF n_N n_F) (h2 : 2 ≤ n_N 0) : MI l yX7_weigh wsX7_weigh ({ frames := 3, cells := 0, slots := 0, locals := 65 }) D k [.ref h, .int i, .int v] [oq6 h h_now h_trial h_images h_imageThere h_teller h_ranks h_court h_sheets h_lf h_lt, oqT h_now n_a n_N n_J, oqF0 k n_a n_F, oqF1 k n_a n_F, oqF2 k n_a n_F, oqF3 k n_a n_F, oqF4 k n_a n_F, oqF5 k n_a n_F, oqF6 k n_a n_F] sz (fun (r : Int32) (u : Nat → Int32) => cWg (n_N 0) (n_F 0) i v r u) (fun (u : Nat → Int32) => [oq6 h h_now h_trial h_images h_imageThere h_teller h_ranks h_court h_sheets h_lf h_lt, oqT h_now n_a n_N n_J, oqI k (n_a 0) 8 (u), oqF1 k n_a n_F, oqF2 k n_a n_F, oqF3 k n_a n_F, oqF4 k n_a n_F, oqF5 k n_a n_F, oqF6 k n_a n_F]) := by
  refine Met.ofW (cc := cX7_weigh) (maxL := 4) (ret := (some .int)) hpn_X7 rfl ?_
  intro p e s m args below meth c s₁ B hml hv
  obtain ⟨rfl, hsz, hP, hK, hD0, hN⟩ := hv
  have hx := B.exec
  have hb := B.bytes
  have hr := B.returns
  have hlocks := B.notSynchronized
  have hts := atoms_spec (ws := wsX7_weigh) B.pre
  have hown := findClass_of_methodNamed B.named
  have hown : s.vm.findClass RX7 = some m.cls := hown
  have hiX6 : ∀ w ∈ u_ws RX6 TX6 15, w ∈ wsX7_weigh := fun w9 hw9 => List.mem_cons_of_mem _ (igX6 w9 hw9)
  have hiX7 : ∀ w ∈ u_ws RX7 TX7 10, w ∈ wsX7_weigh := fun w9 hw9 => List.mem_cons_of_mem _ (igX7 w9 hw9)
  have fl10 := hts (.fieldLink RX7 10 "HalfScales" "now" "LHalfScales$Thing;") (List.mem_cons_of_mem _ (hs_inG 1 215 rfl rfl))
  have fl122 := hts (.fieldLink RX7 122 "HalfScales$Thing" "weights" "[I") (List.mem_cons_of_mem _ (hs_inG 1 36 rfl rfl))
  have hNn := hN0
  obtain ⟨I0, I1, ⟨I2, I2b⟩, I3, I4⟩ := hN0
  subst hsz
  have hD := hD0.self (sz := s.heap.size)
  generalize hAe : va_A [oq6 h h_now h_trial h_images h_imageThere h_teller h_ranks h_court h_sheets h_lf h_lt, oqT h_now n_a n_N n_J, oqF0 k n_a n_F, oqF1 k n_a n_F, oqF2 k n_a n_F, oqF3 k n_a n_F, oqF4 k n_a n_F, oqF5 k n_a n_F, oqF6 k n_a n_F] s.heap.size = A at hD ⊢
  have hA : ∀ q : Nat, s.heap.size ≤ q → A q := fun q h => by rw [← hAe]; exact Or.inr h
  have hS : va_S A s.heap s.heap [] := va_S.rf
  have hl := lv_entry ([.ref h, .int i, .int v]) (n := 4) (Nat.le_of_ble_eq_true rfl)
  rw [lg_entry_eq]
  generalize (lg_sl ([.ref h, .int i, .int v]) ++ List.replicate (4 - (lg_sl ([.ref h, .int i, .int v])).length) Slot.unset).toArray = ls at hl ⊢
  have hl : lv_has ls 4 [(0, .ref h), (1, .int i), (2, .int v)] := hl
  have hP : va_P D vwCl [oq6 h h_now h_trial h_images h_imageThere h_teller h_ranks h_court h_sheets h_lf h_lt, oqT h_now n_a n_N n_J, oqF0 k n_a n_F, oqF1 k n_a n_F, oqF2 k n_a n_F, oqF3 k n_a n_F, oqF4 k n_a n_F, oqF5 k n_a n_F, oqF6 k n_a n_F] s.heap := hP
  refine lv_aload_n hx hb dX7_weigh_0 rfl (lv_at hl 0 rfl) ?_
  refine va_get (D := D) (ci := 6) (v := .ref h_now) (C := RX7) (T := TX7) (N := 10) hx hb hts hiX7 hown hK hP 0 rfl rfl 0 (Nat.le_of_ble_eq_true rfl) fl10 (fun _ h9 => h9) rfl dX7_weigh_1 ?_
  refine lv_iload_n hx hb dX7_weigh_4 rfl (lv_at hl 1 rfl) ?_
  refine lv_iload_n hx hb dX7_weigh_5 rfl (lv_at hl 2 rfl) ?_
  refine hs_ciM (va_runV (As := [.int i, .int v]) (rest := []) ⟨hx, hb, hml, hown, hts⟩ (g_canWeigh l D k _ h_now n_a n_N n_J i v (by first | assumption | exact ⟨by first | omega | (dsimp; omega), by first | omega | (dsimp; omega), ⟨by first | omega | (dsimp; omega), by first | omega | (dsimp; omega)⟩, by first | omega | (dsimp; omega), by first | omega | (dsimp; omega)⟩)) (cwV 2 hts gX7_weigh_X6_canWeigh rfl rfl rfl ⟨rfl, hq_X6_canWeigh⟩ ⟨Nat.le_of_ble_eq_true rfl, Nat.le_of_ble_eq_true rfl⟩) (hs_preV hK hN (hs_subP (w := [_]) hP [1] rfl) (hD.sub (ws' := [_]) [1] (hs_upnd rfl) rfl) (ci := 5) (q0 := 0) rfl rfl) rfl rfl hl.1 rfl (lv_room (Nat.le_of_ble_eq_true rfl)) dX7_weigh_6 ⟨Nat.le_of_ble_eq_true rfl, Nat.le_of_ble_eq_true rfl⟩) hP hD hS hA [true, false, true, true, true, true, true, true, true] [_, _, _, _, _, _, _, _] [_] rfl [0] rfl [0] (fun u_3 => [_]) (fun _ => rfl) (hs_upnd rfl) [true, false, true, true, true, true, true, true, true] (fun u_3 => [_, _, _, _, _, _, _, _, _]) (fun _ => rfl) (fun r_1 u_3 H locs hw_2 hP hD hS => ?_)
  refine hs_topi (hsb (hslt i (n_N 0) && hsin v 0 9)) hw_2 ?_
  refine lv_if_ne (tgt := 14) hx hb dX7_weigh_9 rfl (fun c_4 => ?_) (fun c_4 => ?_)
  · obtain ⟨j_5, hj_5, rfl⟩ := hslt_ex <| hs_and1 (hs_nb c_4)
    refine lv_aload_n hx hb dX7_weigh_14 rfl (lv_at hl 0 rfl) ?_
    refine va_get (D := D) (ci := 6) (v := .ref h_now) (C := RX7) (T := TX7) (N := 10) hx hb hts hiX7 hown hK hP 0 rfl rfl 0 (Nat.le_of_ble_eq_true rfl) fl10 (fun _ h9 => h9) rfl dX7_weigh_15 ?_
    refine va_get (D := D) (ci := 5) (v := .ref (n_a 0)) (C := RX6) (T := TX6) (N := 15) hx hb hts hiX6 hown hK hP 1 rfl rfl 0 (Nat.le_of_ble_eq_true rfl) fl122 (fun _ h9 => h9) rfl dX7_weigh_18 ?_
    refine lv_iload_n hx hb dX7_weigh_21 rfl (lv_at hl 1 rfl) ?_
    refine va_iald hx hb hK hP 2 0 rfl rfl (vp_in_nI (show j_5 < 8 by omega) (by decide)) dX7_weigh_22 ?_
    refine lv_istore_n (lv' := [(3, .int ((n_F 0) (nI j_5).toNatClampNeg)), (0, .ref h), (1, .int (nI j_5)), (2, .int v)]) hx hb dX7_weigh_23 rfl hl (Nat.le_of_ble_eq_true rfl) rfl (fun ls hl => ?_)
    refine lv_aload_n hx hb dX7_weigh_24 rfl (lv_at hl 1 rfl) ?_
    refine va_get (D := D) (ci := 6) (v := .ref h_now) (C := RX7) (T := TX7) (N := 10) hx hb hts hiX7 hown hK hP 0 rfl rfl 0 (Nat.le_of_ble_eq_true rfl) fl10 (fun _ h9 => h9) rfl dX7_weigh_25 ?_
    refine va_get (D := D) (ci := 5) (v := .ref (n_a 0)) (C := RX6) (T := TX6) (N := 15) hx hb hts hiX6 hown hK hP 1 rfl rfl 0 (Nat.le_of_ble_eq_true rfl) fl122 (fun _ h9 => h9) rfl dX7_weigh_28 ?_
    refine lv_iload_n hx hb dX7_weigh_31 rfl (lv_at hl 2 rfl) ?_
    refine lv_iload_n hx hb dX7_weigh_32 rfl (lv_at hl 3 rfl) ?_
    refine va_iast hx hb hK hP hD hS 2 0 rfl rfl (vp_in_nI (show j_5 < 8 by omega) (by decide)) dX7_weigh_33 (fun H locs hP hD hS => ?_)
    have hP : va_P D vwCl [_, _, oqI k (n_a 0) 8 (upd (n_F 0) ((nI j_5).toNatClampNeg) v), _, _, _, _, _, _] H := hP
    have hD : va_D A [_, _, oqI k (n_a 0) 8 (upd (n_F 0) ((nI j_5).toNatClampNeg) v), _, _, _, _, _, _] := hD
    refine lv_iload_n hx hb dX7_weigh_34 rfl (lv_at hl 0 rfl) ?_
    exact hs_iret hx hb hr hlocks hK hP hD hS (upd (n_F 0) ((nI j_5).toNatClampNeg) v) [0, 1, 2, 3, 4, 5, 6, 7, 8] rfl (hs_upnd rfl) dX7_weigh_35 (Or.inl ⟨hs_nb c_4, rfl, rfl⟩)
  · refine lv_iconst (v := (-1)) hx hb dX7_weigh_12 hki_m1 ?_
    exact hs_iret hx hb hr hlocks hK hP hD hS (n_F 0) [0, 1, 2, 3, 4, 5, 6, 7, 8] rfl (hs_upnd rfl) dX7_weigh_13 (Or.inr ⟨hs_n0 c_4, rfl, rfl⟩)

set_option maxHeartbeats 4000000 in
set_option maxRecDepth 100000 in
theorem gpf_teach (l : Launch) (D : va_G) (k : Nat → ClassId) (sz : Nat) (h : Nat) (h_now : Nat) (h_trial : Nat) (h_images : Nat) (h_imageThere : Nat) (h_teller : Nat) (h_ranks : Nat) (h_court : Nat) (h_sheets : Nat) (h_lf : Int32) (h_lt : Int32) (n_a : Nat → Nat) (n_N : Nat → Nat) (n_J : Nat → Int32) (n_F : Nat → Nat → Int32) (i : Int32) (v : Int32) (hN0 : thN n_N) (hF : thF n_N n_F) (h2 : 2 ≤ n_N 0) : MI l yX7_teach wsX7_teach ({ frames := 2, cells := 0, slots := 0, locals := 43 }) D k [.ref h, .int i, .int v] [oq6 h h_now h_trial h_images h_imageThere h_teller h_ranks h_court h_sheets h_lf h_lt, oqT h_now n_a n_N n_J, oqF0 k n_a n_F, oqF1 k n_a n_F, oqF2 k n_a n_F, oqF3 k n_a n_F, oqF4 k n_a n_F, oqF5 k n_a n_F, oqF6 k n_a n_F] sz (fun (r : Int32) (u : Nat → Int32) => cTe (n_N 1) (n_F 1) i v r u) (fun (u : Nat → Int32) => [oq6 h h_now h_trial h_images h_imageThere h_teller h_ranks h_court h_sheets h_lf h_lt, oqT h_now n_a n_N n_J, oqF0 k n_a n_F, oqI k (n_a 1) 4 (u), oqF2 k n_a n_F, oqF3 k n_a n_F, oqF4 k n_a n_F, oqF5 k n_a n_F, oqF6 k n_a n_F]) := by
  refine Met.ofW (cc := cX7_teach) (maxL := 4) (ret := (some .int)) hpn_X7 rfl ?_
  intro p e s m args below meth c s₁ B hml hv
  obtain ⟨rfl, hsz, hP, hK, hD0, hN⟩ := hv
  have hx := B.exec
  have hb := B.bytes
  have hr := B.returns
  have hlocks := B.notSynchronized
  have hts := atoms_spec (ws := wsX7_teach) B.pre
  have hown := findClass_of_methodNamed B.named
  have hown : s.vm.findClass RX7 = some m.cls := hown
  have hiX6 : ∀ w ∈ u_ws RX6 TX6 15, w ∈ wsX7_teach := fun w9 hw9 => List.mem_cons_of_mem _ (igX6 w9 hw9)
  have hiX7 : ∀ w ∈ u_ws RX7 TX7 10, w ∈ wsX7_teach := fun w9 hw9 => List.mem_cons_of_mem _ (igX7 w9 hw9)
  have fl10 := hts (.fieldLink RX7 10 "HalfScales" "now" "LHalfScales$Thing;") (List.mem_cons_of_mem _ (hs_inG 1 215 rfl rfl))
  have fl128 := hts (.fieldLink RX7 128 "HalfScales$Thing" "kindOf" "[I") (List.mem_cons_of_mem _ (hs_inG 1 39 rfl rfl))
  have hNn := hN0
  obtain ⟨I0, I1, ⟨I2, I2b⟩, I3, I4⟩ := hN0
  subst hsz
  have hD := hD0.self (sz := s.heap.size)
  generalize hAe : va_A [oq6 h h_now h_trial h_images h_imageThere h_teller h_ranks h_court h_sheets h_lf h_lt, oqT h_now n_a n_N n_J, oqF0 k n_a n_F, oqF1 k n_a n_F, oqF2 k n_a n_F, oqF3 k n_a n_F, oqF4 k n_a n_F, oqF5 k n_a n_F, oqF6 k n_a n_F] s.heap.size = A at hD ⊢
  have hA : ∀ q : Nat, s.heap.size ≤ q → A q := fun q h => by rw [← hAe]; exact Or.inr h
  have hS : va_S A s.heap s.heap [] := va_S.rf
  have hl := lv_entry ([.ref h, .int i, .int v]) (n := 4) (Nat.le_of_ble_eq_true rfl)
  rw [lg_entry_eq]
  generalize (lg_sl ([.ref h, .int i, .int v]) ++ List.replicate (4 - (lg_sl ([.ref h, .int i, .int v])).length) Slot.unset).toArray = ls at hl ⊢
  have hl : lv_has ls 4 [(0, .ref h), (1, .int i), (2, .int v)] := hl
  have hP : va_P D vwCl [oq6 h h_now h_trial h_images h_imageThere h_teller h_ranks h_court h_sheets h_lf h_lt, oqT h_now n_a n_N n_J, oqF0 k n_a n_F, oqF1 k n_a n_F, oqF2 k n_a n_F, oqF3 k n_a n_F, oqF4 k n_a n_F, oqF5 k n_a n_F, oqF6 k n_a n_F] s.heap := hP
  refine lv_aload_n hx hb dX7_teach_0 rfl (lv_at hl 0 rfl) ?_
  refine va_get (D := D) (ci := 6) (v := .ref h_now) (C := RX7) (T := TX7) (N := 10) hx hb hts hiX7 hown hK hP 0 rfl rfl 0 (Nat.le_of_ble_eq_true rfl) fl10 (fun _ h9 => h9) rfl dX7_teach_1 ?_
  refine lv_iload_n hx hb dX7_teach_4 rfl (lv_at hl 1 rfl) ?_
  refine hs_ciM (va_runV (As := [.int i]) (rest := []) ⟨hx, hb, hml, hown, hts⟩ (g_isPerson l D k _ h_now n_a n_N n_J i (by first | assumption | exact ⟨by first | omega | (dsimp; omega), by first | omega | (dsimp; omega), ⟨by first | omega | (dsimp; omega), by first | omega | (dsimp; omega)⟩, by first | omega | (dsimp; omega), by first | omega | (dsimp; omega)⟩)) (cwV 1 hts gX7_teach_X6_isPerson rfl rfl rfl ⟨rfl, hq_X6_isPerson⟩ ⟨Nat.le_of_ble_eq_true rfl, Nat.le_of_ble_eq_true rfl⟩) (hs_preV hK hN (hs_subP (w := [_]) hP [1] rfl) (hD.sub (ws' := [_]) [1] (hs_upnd rfl) rfl) (ci := 5) (q0 := 0) rfl rfl) rfl rfl hl.1 rfl (lv_room (Nat.le_of_ble_eq_true rfl)) dX7_teach_5 ⟨Nat.le_of_ble_eq_true rfl, Nat.le_of_ble_eq_true rfl⟩) hP hD hS hA [true, false, true, true, true, true, true, true, true] [_, _, _, _, _, _, _, _] [_] rfl [0] rfl [0] (fun u_3 => [_]) (fun _ => rfl) (hs_upnd rfl) [true, false, true, true, true, true, true, true, true] (fun u_3 => [_, _, _, _, _, _, _, _, _]) (fun _ => rfl) (fun r_1 u_3 H locs hw_2 hP hD hS => ?_)
  refine hs_topi (hsb (hslt i (n_N 1))) hw_2 ?_
  refine lv_if_eq (tgt := 20) hx hb dX7_teach_8 rfl (fun c_4 => ?_) (fun c_4 => ?_)
  · refine lv_iconst (v := (-1)) hx hb dX7_teach_20 hki_m1 ?_
    exact hs_iret hx hb hr hlocks hK hP hD hS (n_F 1) [0, 1, 2, 3, 4, 5, 6, 7, 8] rfl (hs_upnd rfl) dX7_teach_21 (Or.inr ⟨by rw [hs_n0 c_4]; rfl, rfl, rfl⟩)
  · obtain ⟨j_5, hj_5, rfl⟩ := hslt_ex (hs_nb c_4)
    refine lv_iload_n hx hb dX7_teach_11 rfl (lv_at hl 2 rfl) ?_
    refine lv_iconst (v := 0) hx hb dX7_teach_12 hki_0 ?_
    refine lv_iconst (v := 3) hx hb dX7_teach_13 hki_3 ?_
    refine hs_pi (va_runS (As := [.int v, .int 0, .int 3]) (rest := []) ⟨hx, hb, hml, hown, hts⟩ (g_within l D k _ v 0 3) (va_cwS 3 hts gX7_teach_X7_within rfl rfl rfl hq_X7_within ⟨Nat.le_of_ble_eq_true rfl, Nat.le_of_ble_eq_true rfl⟩) (hs_preS hK hN (hs_subP (w := []) hP [] rfl) (hD.sub (ws' := []) [] rfl rfl)) rfl rfl hl.1 rfl (lv_room (Nat.le_of_ble_eq_true rfl)) dX7_teach_14 ⟨Nat.le_of_ble_eq_true rfl, Nat.le_of_ble_eq_true rfl⟩) hP hD hS hA (fun r_6 u_8 H locs hw_7 hP hS => ?_)
    refine hs_topi (hsb (hsin v 0 3)) hw_7 ?_
    refine lv_if_ne (tgt := 22) hx hb dX7_teach_17 rfl (fun c_9 => ?_) (fun c_9 => ?_)
    · refine lv_aload_n hx hb dX7_teach_22 rfl (lv_at hl 0 rfl) ?_
      refine va_get (D := D) (ci := 6) (v := .ref h_now) (C := RX7) (T := TX7) (N := 10) hx hb hts hiX7 hown hK hP 0 rfl rfl 0 (Nat.le_of_ble_eq_true rfl) fl10 (fun _ h9 => h9) rfl dX7_teach_23 ?_
      refine va_get (D := D) (ci := 5) (v := .ref (n_a 1)) (C := RX6) (T := TX6) (N := 15) hx hb hts hiX6 hown hK hP 1 rfl rfl 1 (Nat.le_of_ble_eq_true rfl) fl128 (fun _ h9 => h9) rfl dX7_teach_26 ?_
      refine lv_iload_n hx hb dX7_teach_29 rfl (lv_at hl 1 rfl) ?_
      refine va_iald hx hb hK hP 3 0 rfl rfl (vp_in_nI (show j_5 < 4 by omega) (by decide)) dX7_teach_30 ?_
      refine lv_istore_n (lv' := [(3, .int ((n_F 1) (nI j_5).toNatClampNeg)), (0, .ref h), (1, .int (nI j_5)), (2, .int v)]) hx hb dX7_teach_31 rfl hl (Nat.le_of_ble_eq_true rfl) rfl (fun ls hl => ?_)
      refine lv_aload_n hx hb dX7_teach_32 rfl (lv_at hl 1 rfl) ?_
      refine va_get (D := D) (ci := 6) (v := .ref h_now) (C := RX7) (T := TX7) (N := 10) hx hb hts hiX7 hown hK hP 0 rfl rfl 0 (Nat.le_of_ble_eq_true rfl) fl10 (fun _ h9 => h9) rfl dX7_teach_33 ?_
      refine va_get (D := D) (ci := 5) (v := .ref (n_a 1)) (C := RX6) (T := TX6) (N := 15) hx hb hts hiX6 hown hK hP 1 rfl rfl 1 (Nat.le_of_ble_eq_true rfl) fl128 (fun _ h9 => h9) rfl dX7_teach_36 ?_
      refine lv_iload_n hx hb dX7_teach_39 rfl (lv_at hl 2 rfl) ?_
      refine lv_iload_n hx hb dX7_teach_40 rfl (lv_at hl 3 rfl) ?_
      refine va_iast hx hb hK hP hD hS 3 0 rfl rfl (vp_in_nI (show j_5 < 4 by omega) (by decide)) dX7_teach_41 (fun H locs hP hD hS => ?_)
      have hP : va_P D vwCl [_, _, _, oqI k (n_a 1) 4 (upd (n_F 1) ((nI j_5).toNatClampNeg) v), _, _, _, _, _] H := hP
      have hD : va_D A [_, _, _, oqI k (n_a 1) 4 (upd (n_F 1) ((nI j_5).toNatClampNeg) v), _, _, _, _, _] := hD
      refine lv_iload_n hx hb dX7_teach_42 rfl (lv_at hl 0 rfl) ?_
      exact hs_iret hx hb hr hlocks hK hP hD hS (upd (n_F 1) ((nI j_5).toNatClampNeg) v) [0, 1, 2, 3, 4, 5, 6, 7, 8] rfl (hs_upnd rfl) dX7_teach_43 (Or.inl ⟨by rw [hs_nb c_4, hs_nb c_9]; rfl, rfl, rfl⟩)
    · refine lv_iconst (v := (-1)) hx hb dX7_teach_20 hki_m1 ?_
      exact hs_iret hx hb hr hlocks hK hP hD hS (n_F 1) [0, 1, 2, 3, 4, 5, 6, 7, 8] rfl (hs_upnd rfl) dX7_teach_21 (Or.inr ⟨by rw [hs_n0 c_9, Bool.and_false], rfl, rfl⟩)

set_option maxHeartbeats 4000000 in
set_option maxRecDepth 100000 in
theorem gf_splitCell (l : Launch) (D : va_G) (k : Nat → ClassId) (sz : Nat) (t : Nat) (t_a : Nat → Nat) (t_N : Nat → Nat) (t_J : Nat → Int32) (t_F : Nat → Nat → Int32) (i : Nat) (h7 : t_N 0 ≤ 7) (hi : i < t_N 0) : MV l yX6_splitCell wsX6_splitCell ({ frames := 1, cells := 0, slots := 0, locals := 20 }) D k [.ref t, .int (nI i)] [oqT t t_a t_N t_J, oqF0 k t_a t_F, oqF1 k t_a t_F, oqF2 k t_a t_F, oqF3 k t_a t_F, oqF4 k t_a t_F, oqF5 k t_a t_F, oqF6 k t_a t_F] sz (fun (u : Nat → Int32) => u = spW (t_F 0) (t_N 0) i) (fun (u : Nat → Int32) => [oq5 t (t_a 0) (t_a 1) (t_a 2) (t_a 3) (t_a 4) (t_a 5) (t_a 6) (nI (t_N 0 + 1)) (nI (t_N 1)) (t_J 0) (t_J 1) (t_J 2) (nI (t_N 2)) (nI (t_N 3)) (nI (t_N 4)), oqI k (t_a 0) 8 (u), oqF1 k t_a t_F, oqF2 k t_a t_F, oqF3 k t_a t_F, oqF4 k t_a t_F, oqF5 k t_a t_F, oqF6 k t_a t_F]) := by
  refine Met.ofW (cc := cX6_splitCell) (maxL := 3) (ret := none) hpn_X6 rfl ?_
  intro p e s m args below meth c s₁ B hml hv
  obtain ⟨rfl, hsz, hP, hK, hD0, hN⟩ := hv
  have hx := B.exec
  have hb := B.bytes
  have hr := B.returns
  have hlocks := B.notSynchronized
  have hts := atoms_spec (ws := wsX6_splitCell) B.pre
  have hown := findClass_of_methodNamed B.named
  have hown : s.vm.findClass RX6 = some m.cls := hown
  have hiX6 : ∀ w ∈ u_ws RX6 TX6 15, w ∈ wsX6_splitCell := fun w9 hw9 => List.mem_cons_of_mem _ (igX6 w9 hw9)
  have fl36 := hts (.fieldLink RX6 36 "HalfScales$Thing" "cellCount" "I") (List.mem_cons_of_mem _ (hs_inG 1 51 rfl rfl))
  have fl9 := hts (.fieldLink RX6 9 "HalfScales$Thing" "weights" "[I") (List.mem_cons_of_mem _ (hs_inG 1 35 rfl rfl))
  have iniX7 := hts (.initialized RX7) (List.mem_cons_of_mem _ (hs_inG 1 1 rfl rfl))
  have st_X7_halfUp := hts (.static yX7_halfUp) (List.mem_cons_of_mem _ (hs_inG 2 234 rfl rfl))
  subst hsz
  have hD := hD0.self (sz := s.heap.size)
  generalize hAe : va_A [oqT t t_a t_N t_J, oqF0 k t_a t_F, oqF1 k t_a t_F, oqF2 k t_a t_F, oqF3 k t_a t_F, oqF4 k t_a t_F, oqF5 k t_a t_F, oqF6 k t_a t_F] s.heap.size = A at hD ⊢
  have hA : ∀ q : Nat, s.heap.size ≤ q → A q := fun q h => by rw [← hAe]; exact Or.inr h
  have hS : va_S A s.heap s.heap [] := va_S.rf
  have hl := lv_entry ([.ref t, .int (nI i)]) (n := 3) (Nat.le_of_ble_eq_true rfl)
  rw [lg_entry_eq]
  generalize (lg_sl ([.ref t, .int (nI i)]) ++ List.replicate (3 - (lg_sl ([.ref t, .int (nI i)])).length) Slot.unset).toArray = ls at hl ⊢
  have hl : lv_has ls 3 [(0, .ref t), (1, .int (nI i))] := hl
  have hP : va_P D vwCl [oqT t t_a t_N t_J, oqF0 k t_a t_F, oqF1 k t_a t_F, oqF2 k t_a t_F, oqF3 k t_a t_F, oqF4 k t_a t_F, oqF5 k t_a t_F, oqF6 k t_a t_F] s.heap := hP
  refine lv_aload_n hx hb dX6_splitCell_0 rfl (lv_at hl 0 rfl) ?_
  refine va_get (D := D) (ci := 5) (v := .int (nI (t_N 0))) (C := RX6) (T := TX6) (N := 15) hx hb hts hiX6 hown hK hP 0 rfl rfl 7 (Nat.le_of_ble_eq_true rfl) fl36 (fun _ h9 => h9) rfl dX6_splitCell_1 ?_
  refine lv_istore_n (lv' := [(2, .int (nI (t_N 0))), (0, .ref t), (1, .int (nI i))]) hx hb dX6_splitCell_4 rfl hl (Nat.le_of_ble_eq_true rfl) rfl (fun ls hl => ?_)
  refine hs_while (σ := Nat × (Nat → Int32)) (fun x => i + 1 ≤ x.1 ∧ x.1 ≤ t_N 0 ∧ x.2 = shf (t_F 0) x.1 (t_N 0)) (fun x => x.1) (fun x => [oqT t t_a t_N t_J, oqI k (t_a 0) 8 ((x.2)), oqF1 k t_a t_F, oqF2 k t_a t_F, oqF3 k t_a t_F, oqF4 k t_a t_F, oqF5 k t_a t_F, oqF6 k t_a t_F]) (fun x => [(2, .int (nI (x.1))), (0, .ref t), (1, .int (nI i))]) ?_ (t_N 0, t_F 0) ?_ hP hD hS hl
  · intro x hI ih5 H locs ls hP hD hS hl
    obtain ⟨jj, wf⟩ := x
    try dsimp only at hI
    have hP : va_P D vwCl [oqT t t_a t_N t_J, oqI k (t_a 0) 8 (wf), oqF1 k t_a t_F, oqF2 k t_a t_F, oqF3 k t_a t_F, oqF4 k t_a t_F, oqF5 k t_a t_F, oqF6 k t_a t_F] H := hP
    have hD : va_D A [oqT t t_a t_N t_J, oqI k (t_a 0) 8 (wf), oqF1 k t_a t_F, oqF2 k t_a t_F, oqF3 k t_a t_F, oqF4 k t_a t_F, oqF5 k t_a t_F, oqF6 k t_a t_F] := hD
    have hl : lv_has ls 3 [(2, .int (nI jj)), (0, .ref t), (1, .int (nI i))] := hl
    refine lv_iload_n hx hb dX6_splitCell_5 rfl (lv_at hl 0 rfl) ?_
    refine lv_iload_n hx hb dX6_splitCell_6 rfl (lv_at hl 2 rfl) ?_
    refine lv_iconst (v := 1) hx hb dX6_splitCell_7 hki_1 ?_
    refine lv_iadd hx hb dX6_splitCell_8 ?_
    refine hs_topi (nI (i + 1)) (nI_add (i) (1)) ?_
    refine lv_icmp_le (tgt := 32) hx hb dX6_splitCell_9 rfl (fun c_1 => ?_) (fun c_1 => ?_)
    · have nc_1 : jj ≤ (i + 1) := (nI_leI (a := jj) (b := (i + 1)) (by omega) (by omega)).mp c_1
      refine lv_aload_n hx hb dX6_splitCell_32 rfl (lv_at hl 1 rfl) ?_
      refine va_get (D := D) (ci := 5) (v := .ref (t_a 0)) (C := RX6) (T := TX6) (N := 15) hx hb hts hiX6 hown hK hP 0 rfl rfl 0 (Nat.le_of_ble_eq_true rfl) fl9 (fun _ h9 => h9) rfl dX6_splitCell_33 ?_
      refine lv_iload_n hx hb dX6_splitCell_36 rfl (lv_at hl 2 rfl) ?_
      refine va_iald hx hb hK hP 1 0 rfl rfl (vp_in_nI (show i < 8 by omega) (by decide)) dX6_splitCell_37 ?_
      refine hs_topi (t_F 0 i) (by rw [nI_clamp (by omega), hI.2.2]; exact shf_lo (by omega)) ?_
      refine lv_istore_n (lv' := [(2, .int (t_F 0 i)), (0, .ref t), (1, .int (nI i))]) hx hb dX6_splitCell_38 rfl hl (Nat.le_of_ble_eq_true rfl) rfl (fun ls hl => ?_)
      refine lv_aload_n hx hb dX6_splitCell_39 rfl (lv_at hl 1 rfl) ?_
      refine va_get (D := D) (ci := 5) (v := .ref (t_a 0)) (C := RX6) (T := TX6) (N := 15) hx hb hts hiX6 hown hK hP 0 rfl rfl 0 (Nat.le_of_ble_eq_true rfl) fl9 (fun _ h9 => h9) rfl dX6_splitCell_40 ?_
      refine lv_iload_n hx hb dX6_splitCell_43 rfl (lv_at hl 2 rfl) ?_
      refine lv_iload_n hx hb dX6_splitCell_44 rfl (lv_at hl 0 rfl) ?_
      refine hs_pi (va_runSN (As := [.int (t_F 0 i)]) (rest := [.int (nI i), .ref (t_a 0)]) ⟨hx, hb, hml, hown, hts⟩ (g_halfUp l D k _ (t_F 0 i)) ⟨(va_cnB 1 hts gX6_splitCell_X7_halfUp_n75 rfl rfl rfl hN.2.2.2.2.2.2.2.1 iniX7 hq_X7_halfUp ⟨Nat.le_of_ble_eq_true rfl, Nat.le_of_ble_eq_true rfl⟩), st_X7_halfUp, trivial⟩ (hs_preS hK hN (hs_subP (w := []) hP [] rfl) (hD.sub (ws' := []) [] rfl rfl)) rfl rfl hl.1 rfl (lv_room (Nat.le_of_ble_eq_true rfl)) dX6_splitCell_45 ⟨Nat.le_of_ble_eq_true rfl, Nat.le_of_ble_eq_true rfl⟩) hP hD hS hA (fun r_2 u_4 H locs hw_3 hP hS => ?_)
      refine hs_topi (((t_F 0 i) + 1) / 2) hw_3 ?_
      refine va_iast hx hb hK hP hD hS 1 0 rfl rfl (vp_in_nI (show i < 8 by omega) (by decide)) dX6_splitCell_48 (fun H locs hP hD hS => ?_)
      have hP : va_P D vwCl [_, oqI k (t_a 0) 8 (upd wf ((nI i).toNatClampNeg) (((t_F 0 i) + 1) / 2)), _, _, _, _, _, _] H := hP
      have hD : va_D A [_, oqI k (t_a 0) 8 (upd wf ((nI i).toNatClampNeg) (((t_F 0 i) + 1) / 2)), _, _, _, _, _, _] := hD
      refine lv_aload_n hx hb dX6_splitCell_49 rfl (lv_at hl 1 rfl) ?_
      refine va_get (D := D) (ci := 5) (v := .ref (t_a 0)) (C := RX6) (T := TX6) (N := 15) hx hb hts hiX6 hown hK hP 0 rfl rfl 0 (Nat.le_of_ble_eq_true rfl) fl9 (fun _ h9 => h9) rfl dX6_splitCell_50 ?_
      refine lv_iload_n hx hb dX6_splitCell_53 rfl (lv_at hl 2 rfl) ?_
      refine lv_iconst (v := 1) hx hb dX6_splitCell_54 hki_1 ?_
      refine lv_iadd hx hb dX6_splitCell_55 ?_
      refine hs_topi (nI (i + 1)) (nI_add (i) (1)) ?_
      refine lv_iload_n hx hb dX6_splitCell_56 rfl (lv_at hl 0 rfl) ?_
      refine lv_aload_n hx hb dX6_splitCell_57 rfl (lv_at hl 1 rfl) ?_
      refine va_get (D := D) (ci := 5) (v := .ref (t_a 0)) (C := RX6) (T := TX6) (N := 15) hx hb hts hiX6 hown hK hP 0 rfl rfl 0 (Nat.le_of_ble_eq_true rfl) fl9 (fun _ h9 => h9) rfl dX6_splitCell_58 ?_
      refine lv_iload_n hx hb dX6_splitCell_61 rfl (lv_at hl 2 rfl) ?_
      refine va_iald hx hb hK hP 1 0 rfl rfl (vp_in_nI (show i < 8 by omega) (by decide)) dX6_splitCell_62 ?_
      refine hs_topi ((t_F 0 i + 1) / 2) (hs_uq rfl) ?_
      refine lv_isub hx hb dX6_splitCell_63 ?_
      refine va_iast hx hb hK hP hD hS 1 0 rfl rfl (vp_in_nI (show (i + 1) < 8 by omega) (by decide)) dX6_splitCell_64 (fun H locs hP hD hS => ?_)
      have hP : va_P D vwCl [_, oqI k (t_a 0) 8 (upd (upd wf ((nI i).toNatClampNeg) (((t_F 0 i) + 1) / 2)) ((nI (i + 1)).toNatClampNeg) ((t_F 0 i) - ((t_F 0 i + 1) / 2))), _, _, _, _, _, _] H := hP
      have hD : va_D A [_, oqI k (t_a 0) 8 (upd (upd wf ((nI i).toNatClampNeg) (((t_F 0 i) + 1) / 2)) ((nI (i + 1)).toNatClampNeg) ((t_F 0 i) - ((t_F 0 i + 1) / 2))), _, _, _, _, _, _] := hD
      refine lv_aload_n hx hb dX6_splitCell_65 rfl (lv_at hl 1 rfl) ?_
      refine lv_dup hx hb dX6_splitCell_66 rfl ?_
      refine va_get (D := D) (ci := 5) (v := .int (nI (t_N 0))) (C := RX6) (T := TX6) (N := 15) hx hb hts hiX6 hown hK hP 0 rfl rfl 7 (Nat.le_of_ble_eq_true rfl) fl36 (fun _ h9 => h9) rfl dX6_splitCell_67 ?_
      refine lv_iconst (v := 1) hx hb dX6_splitCell_70 hki_1 ?_
      refine lv_iadd hx hb dX6_splitCell_71 ?_
      refine hs_topi (nI ((t_N 0) + 1)) (nI_add ((t_N 0)) (1)) ?_
      refine va_put (D := D) (ci := 5) (v := .int (nI ((t_N 0) + 1))) (ty := .int) (C := RX6) (T := TX6) (N := 15) hx hb hts hiX6 tyX6 tyX6_ok nmX6 hown hK hP hD hS 0 rfl rfl 7 (Nat.le_of_ble_eq_true rfl) fl36 (fun _ h9 => h9) rfl (by decide +kernel) rfl rfl (Nat.le_of_ble_eq_true rfl) dX6_splitCell_72 (fun H locs hP hD hS => ?_)
      have hP : va_P D vwCl [oq5 t (t_a 0) (t_a 1) (t_a 2) (t_a 3) (t_a 4) (t_a 5) (t_a 6) (nI ((t_N 0) + 1)) (nI (t_N 1)) (t_J 0) (t_J 1) (t_J 2) (nI (t_N 2)) (nI (t_N 3)) (nI (t_N 4)), _, _, _, _, _, _, _] H := hP
      have hD : va_D A [oq5 t (t_a 0) (t_a 1) (t_a 2) (t_a 3) (t_a 4) (t_a 5) (t_a 6) (nI ((t_N 0) + 1)) (nI (t_N 1)) (t_J 0) (t_J 1) (t_J 2) (nI (t_N 2)) (nI (t_N 3)) (nI (t_N 4)), _, _, _, _, _, _, _] := hD
      exact hs_vret hx hb hr hlocks hK hP hD hS (upd (upd wf ((nI i).toNatClampNeg) (((t_F 0 i) + 1) / 2)) ((nI (i + 1)).toNatClampNeg) ((t_F 0 i) - ((t_F 0 i + 1) / 2))) [0, 1, 2, 3, 4, 5, 6, 7] rfl (hs_upnd rfl) dX6_splitCell_75 ((by (try dsimp only); rw [nI_clamp (by omega), nI_clamp (by omega), hI.2.2, show jj = i + 1 by omega]; rfl))
    · have nc_1 : ¬ jj ≤ (i + 1) := fun hq9 => c_1 ((nI_leI (a := jj) (b := (i + 1)) (by omega) (by omega)).mpr hq9)
      refine lv_aload_n hx hb dX6_splitCell_12 rfl (lv_at hl 1 rfl) ?_
      refine va_get (D := D) (ci := 5) (v := .ref (t_a 0)) (C := RX6) (T := TX6) (N := 15) hx hb hts hiX6 hown hK hP 0 rfl rfl 0 (Nat.le_of_ble_eq_true rfl) fl9 (fun _ h9 => h9) rfl dX6_splitCell_13 ?_
      refine lv_iload_n hx hb dX6_splitCell_16 rfl (lv_at hl 0 rfl) ?_
      refine lv_aload_n hx hb dX6_splitCell_17 rfl (lv_at hl 1 rfl) ?_
      refine va_get (D := D) (ci := 5) (v := .ref (t_a 0)) (C := RX6) (T := TX6) (N := 15) hx hb hts hiX6 hown hK hP 0 rfl rfl 0 (Nat.le_of_ble_eq_true rfl) fl9 (fun _ h9 => h9) rfl dX6_splitCell_18 ?_
      refine lv_iload_n hx hb dX6_splitCell_21 rfl (lv_at hl 0 rfl) ?_
      refine lv_iconst (v := 1) hx hb dX6_splitCell_22 hki_1 ?_
      refine lv_isub hx hb dX6_splitCell_23 ?_
      refine hs_topi (nI (jj - 1)) (pk_sub (a := jj) (b := 1) (by omega)) ?_
      refine va_iald hx hb hK hP 1 0 rfl rfl (vp_in_nI (show (jj - 1) < 8 by omega) (by decide)) dX6_splitCell_24 ?_
      refine va_iast hx hb hK hP hD hS 1 0 rfl rfl (vp_in_nI (show jj < 8 by omega) (by decide)) dX6_splitCell_25 (fun H locs hP hD hS => ?_)
      have hP : va_P D vwCl [oqT t t_a t_N t_J, oqI k (t_a 0) 8 (upd wf ((nI jj).toNatClampNeg) (wf (nI (jj - 1)).toNatClampNeg)), _, _, _, _, _, _] H := hP
      have hD : va_D A [oqT t t_a t_N t_J, oqI k (t_a 0) 8 (upd wf ((nI jj).toNatClampNeg) (wf (nI (jj - 1)).toNatClampNeg)), _, _, _, _, _, _] := hD
      refine lv_iinc (v := nI (jj - 1)) (lv' := [(2, .int (nI (jj - 1))), (0, .ref t), (1, .int (nI i))]) hx hb dX6_splitCell_26 hl (k := 0) rfl (hs_m1 (n := jj) (by omega)) (Nat.le_of_ble_eq_true rfl) rfl (fun ls hl => ?_)
      refine lv_goto (tgt := 5) hx hb dX6_splitCell_29 rfl ?_
      exact ih5 (jj - 1, upd wf ((nI jj).toNatClampNeg) (wf (nI (jj - 1)).toNatClampNeg)) (by (try dsimp only); exact ⟨by omega, by omega, shf_s hI.2.2 (by omega) (by omega) (by omega)⟩) (by (try dsimp only); omega) _ _ _ hP hD hS (lv_sub hl [0, 1, 2] rfl)
  · (try dsimp only); exact ⟨by omega, Nat.le_refl _, shf_0.symm⟩

set_option maxHeartbeats 4000000 in
set_option maxRecDepth 100000 in
theorem gpf_split (l : Launch) (D : va_G) (k : Nat → ClassId) (sz : Nat) (h : Nat) (h_now : Nat) (h_trial : Nat) (h_images : Nat) (h_imageThere : Nat) (h_teller : Nat) (h_ranks : Nat) (h_court : Nat) (h_sheets : Nat) (h_lf : Int32) (h_lt : Int32) (n_a : Nat → Nat) (n_N : Nat → Nat) (n_J : Nat → Int32) (n_F : Nat → Nat → Int32) (i : Int32) (hN0 : thN n_N) (hF : thF n_N n_F) (h2 : 2 ≤ n_N 0) : MI l yX7_split wsX7_split ({ frames := 2, cells := 0, slots := 0, locals := 43 }) D k [.ref h, .int i] [oq6 h h_now h_trial h_images h_imageThere h_teller h_ranks h_court h_sheets h_lf h_lt, oqT h_now n_a n_N n_J, oqF0 k n_a n_F, oqF1 k n_a n_F, oqF2 k n_a n_F, oqF3 k n_a n_F, oqF4 k n_a n_F, oqF5 k n_a n_F, oqF6 k n_a n_F] sz (fun (r : Int32) (u : Nat × (Nat → Int32)) => cSp (n_N 0) (n_F 0) i r u) (fun (u : Nat × (Nat → Int32)) => [oq6 h h_now h_trial h_images h_imageThere h_teller h_ranks h_court h_sheets h_lf h_lt, oq5 h_now (n_a 0) (n_a 1) (n_a 2) (n_a 3) (n_a 4) (n_a 5) (n_a 6) (nI (u.1)) (nI (n_N 1)) (n_J 0) (n_J 1) (n_J 2) (nI (n_N 2)) (nI (n_N 3)) (nI (n_N 4)), oqI k (n_a 0) 8 (u.2), oqF1 k n_a n_F, oqF2 k n_a n_F, oqF3 k n_a n_F, oqF4 k n_a n_F, oqF5 k n_a n_F, oqF6 k n_a n_F]) := by
  refine Met.ofW (cc := cX7_split) (maxL := 2) (ret := (some .int)) hpn_X7 rfl ?_
  intro p e s m args below meth c s₁ B hml hv
  obtain ⟨rfl, hsz, hP, hK, hD0, hN⟩ := hv
  have hx := B.exec
  have hb := B.bytes
  have hr := B.returns
  have hlocks := B.notSynchronized
  have hts := atoms_spec (ws := wsX7_split) B.pre
  have hown := findClass_of_methodNamed B.named
  have hown : s.vm.findClass RX7 = some m.cls := hown
  have hiX6 : ∀ w ∈ u_ws RX6 TX6 15, w ∈ wsX7_split := fun w9 hw9 => List.mem_cons_of_mem _ (igX6 w9 hw9)
  have hiX7 : ∀ w ∈ u_ws RX7 TX7 10, w ∈ wsX7_split := fun w9 hw9 => List.mem_cons_of_mem _ (igX7 w9 hw9)
  have fl10 := hts (.fieldLink RX7 10 "HalfScales" "now" "LHalfScales$Thing;") (List.mem_cons_of_mem _ (hs_inG 1 215 rfl rfl))
  have fl93 := hts (.fieldLink RX7 93 "HalfScales$Thing" "cellCount" "I") (List.mem_cons_of_mem _ (hs_inG 1 53 rfl rfl))
  have hNn := hN0
  obtain ⟨I0, I1, ⟨I2, I2b⟩, I3, I4⟩ := hN0
  subst hsz
  have hD := hD0.self (sz := s.heap.size)
  generalize hAe : va_A [oq6 h h_now h_trial h_images h_imageThere h_teller h_ranks h_court h_sheets h_lf h_lt, oqT h_now n_a n_N n_J, oqF0 k n_a n_F, oqF1 k n_a n_F, oqF2 k n_a n_F, oqF3 k n_a n_F, oqF4 k n_a n_F, oqF5 k n_a n_F, oqF6 k n_a n_F] s.heap.size = A at hD ⊢
  have hA : ∀ q : Nat, s.heap.size ≤ q → A q := fun q h => by rw [← hAe]; exact Or.inr h
  have hS : va_S A s.heap s.heap [] := va_S.rf
  have hl := lv_entry ([.ref h, .int i]) (n := 2) (Nat.le_of_ble_eq_true rfl)
  rw [lg_entry_eq]
  generalize (lg_sl ([.ref h, .int i]) ++ List.replicate (2 - (lg_sl ([.ref h, .int i])).length) Slot.unset).toArray = ls at hl ⊢
  have hl : lv_has ls 2 [(0, .ref h), (1, .int i)] := hl
  have hP : va_P D vwCl [oq6 h h_now h_trial h_images h_imageThere h_teller h_ranks h_court h_sheets h_lf h_lt, oqT h_now n_a n_N n_J, oqF0 k n_a n_F, oqF1 k n_a n_F, oqF2 k n_a n_F, oqF3 k n_a n_F, oqF4 k n_a n_F, oqF5 k n_a n_F, oqF6 k n_a n_F] s.heap := hP
  refine lv_aload_n hx hb dX7_split_0 rfl (lv_at hl 0 rfl) ?_
  refine va_get (D := D) (ci := 6) (v := .ref h_now) (C := RX7) (T := TX7) (N := 10) hx hb hts hiX7 hown hK hP 0 rfl rfl 0 (Nat.le_of_ble_eq_true rfl) fl10 (fun _ h9 => h9) rfl dX7_split_1 ?_
  refine lv_iload_n hx hb dX7_split_4 rfl (lv_at hl 1 rfl) ?_
  refine hs_ciM (va_runV (As := [.int i]) (rest := []) ⟨hx, hb, hml, hown, hts⟩ (g_isCell l D k _ h_now n_a n_N n_J i (by first | assumption | exact ⟨by first | omega | (dsimp; omega), by first | omega | (dsimp; omega), ⟨by first | omega | (dsimp; omega), by first | omega | (dsimp; omega)⟩, by first | omega | (dsimp; omega), by first | omega | (dsimp; omega)⟩)) (cwV 1 hts gX7_split_X6_isCell rfl rfl rfl ⟨rfl, hq_X6_isCell⟩ ⟨Nat.le_of_ble_eq_true rfl, Nat.le_of_ble_eq_true rfl⟩) (hs_preV hK hN (hs_subP (w := [_]) hP [1] rfl) (hD.sub (ws' := [_]) [1] (hs_upnd rfl) rfl) (ci := 5) (q0 := 0) rfl rfl) rfl rfl hl.1 rfl (lv_room (Nat.le_of_ble_eq_true rfl)) dX7_split_5 ⟨Nat.le_of_ble_eq_true rfl, Nat.le_of_ble_eq_true rfl⟩) hP hD hS hA [true, false, true, true, true, true, true, true, true] [_, _, _, _, _, _, _, _] [_] rfl [0] rfl [0] (fun u_3 => [_]) (fun _ => rfl) (hs_upnd rfl) [true, false, true, true, true, true, true, true, true] (fun u_3 => [_, _, _, _, _, _, _, _, _]) (fun _ => rfl) (fun r_1 u_3 H locs hw_2 hP hD hS => ?_)
  refine hs_topi (hsb (hslt i (n_N 0))) hw_2 ?_
  refine lv_if_ne (tgt := 13) hx hb dX7_split_8 rfl (fun c_4 => ?_) (fun c_4 => ?_)
  · obtain ⟨j_5, hj_5, rfl⟩ := hslt_ex (hs_nb c_4)
    refine lv_aload_n hx hb dX7_split_13 rfl (lv_at hl 0 rfl) ?_
    refine va_get (D := D) (ci := 6) (v := .ref h_now) (C := RX7) (T := TX7) (N := 10) hx hb hts hiX7 hown hK hP 0 rfl rfl 0 (Nat.le_of_ble_eq_true rfl) fl10 (fun _ h9 => h9) rfl dX7_split_14 ?_
    refine va_get (D := D) (ci := 5) (v := .int (nI (n_N 0))) (C := RX6) (T := TX6) (N := 15) hx hb hts hiX6 hown hK hP 1 rfl rfl 7 (Nat.le_of_ble_eq_true rfl) fl93 (fun _ h9 => h9) rfl dX7_split_17 ?_
    refine lv_bipush (v := 8) hx hb dX7_split_20 hkb_8 ?_
    refine lv_icmp_lt (tgt := 28) hx hb dX7_split_22 rfl (fun c_6 => ?_) (fun c_6 => ?_)
    · have nc_6 : (n_N 0) < 8 := (nI_ltI (a := (n_N 0)) (b := 8) (by omega) (by omega)).mp c_6
      refine lv_aload_n hx hb dX7_split_28 rfl (lv_at hl 0 rfl) ?_
      refine va_get (D := D) (ci := 6) (v := .ref h_now) (C := RX7) (T := TX7) (N := 10) hx hb hts hiX7 hown hK hP 0 rfl rfl 0 (Nat.le_of_ble_eq_true rfl) fl10 (fun _ h9 => h9) rfl dX7_split_29 ?_
      refine lv_iload_n hx hb dX7_split_32 rfl (lv_at hl 1 rfl) ?_
      refine hs_cvM (va_runV (As := [.int (nI j_5)]) (rest := []) ⟨hx, hb, hml, hown, hts⟩ (gf_splitCell l D k _ h_now n_a n_N n_J n_F j_5 (by omega) (by omega)) (cwV 1 hts gX7_split_X6_splitCell rfl rfl rfl ⟨rfl, hq_X6_splitCell⟩ ⟨Nat.le_of_ble_eq_true rfl, Nat.le_of_ble_eq_true rfl⟩) (hs_preV hK hN (hs_subP (w := [_, _, _, _, _, _, _, _]) hP [1, 2, 3, 4, 5, 6, 7, 8] rfl) (hD.sub (ws' := [_, _, _, _, _, _, _, _]) [1, 2, 3, 4, 5, 6, 7, 8] (hs_upnd rfl) rfl) (ci := 5) (q0 := 0) rfl rfl) rfl rfl hl.1 rfl (lv_room (Nat.le_of_ble_eq_true rfl)) dX7_split_33 ⟨Nat.le_of_ble_eq_true rfl, Nat.le_of_ble_eq_true rfl⟩) hP hD hS hA [true, false, false, false, false, false, false, false, false] [_] [_, _, _, _, _, _, _, _] rfl [0, 1, 2, 3, 4, 5, 6, 7] rfl [0, 1, 2, 3, 4, 5, 6, 7] (fun u_9 => [_, _, _, _, _, _, _, _]) (fun _ => rfl) (hs_upnd rfl) [true, false, false, false, false, false, false, false, false] (fun u_9 => [_, _, _, _, _, _, _, _, _]) (fun _ => rfl) (fun u_9 H locs hw_8 hP hD hS => ?_)
      have hw_8 : u_9 = spW (n_F 0) (n_N 0) j_5 := hw_8
      subst hw_8
      refine lv_aload_n hx hb dX7_split_36 rfl (lv_at hl 0 rfl) ?_
      refine va_get (D := D) (ci := 6) (v := .ref h_now) (C := RX7) (T := TX7) (N := 10) hx hb hts hiX7 hown hK hP 0 rfl rfl 0 (Nat.le_of_ble_eq_true rfl) fl10 (fun _ h9 => h9) rfl dX7_split_37 ?_
      refine va_get (D := D) (ci := 5) (v := .int (nI (n_N 0 + 1))) (C := RX6) (T := TX6) (N := 15) hx hb hts hiX6 hown hK hP 1 rfl rfl 7 (Nat.le_of_ble_eq_true rfl) fl93 (fun _ h9 => h9) rfl dX7_split_40 ?_
      exact hs_iret hx hb hr hlocks hK hP hD hS (n_N 0 + 1, (spW (n_F 0) (n_N 0) j_5)) [0, 1, 2, 3, 4, 5, 6, 7, 8] rfl (hs_upnd rfl) dX7_split_43 (Or.inr (Or.inr ⟨hs_nb c_4, by omega, rfl, by rw [nI_clamp (by omega)]⟩))
    · have nc_6 : ¬ (n_N 0) < 8 := fun hq9 => c_6 ((nI_ltI (a := (n_N 0)) (b := 8) (by omega) (by omega)).mpr hq9)
      refine lv_bipush (v := (-3)) hx hb dX7_split_25 hkb_m3 ?_
      exact hs_iret hx hb hr hlocks hK hP hD hS (n_N 0, n_F 0) [0, 1, 2, 3, 4, 5, 6, 7, 8] rfl (hs_upnd rfl) dX7_split_27 (Or.inr (Or.inl ⟨hs_nb c_4, by omega, rfl, rfl⟩))
  · refine lv_iconst (v := (-1)) hx hb dX7_split_11 hki_m1 ?_
    exact hs_iret hx hb hr hlocks hK hP hD hS (n_N 0, n_F 0) [0, 1, 2, 3, 4, 5, 6, 7, 8] rfl (hs_upnd rfl) dX7_split_12 (Or.inl ⟨hs_n0 c_4, rfl, rfl⟩)

set_option maxHeartbeats 4000000 in
set_option maxRecDepth 100000 in
theorem gf_joinWithNext (l : Launch) (D : va_G) (k : Nat → ClassId) (sz : Nat) (t : Nat) (t_a : Nat → Nat) (t_N : Nat → Nat) (t_J : Nat → Int32) (t_F : Nat → Nat → Int32) (i : Nat) (h8 : t_N 0 ≤ 8) (hi : i + 1 < t_N 0) : MV l yX6_joinWithNext wsX6_joinWithNext ({ frames := 1, cells := 0, slots := 0, locals := 21 }) D k [.ref t, .int (nI i)] [oqT t t_a t_N t_J, oqF0 k t_a t_F, oqF1 k t_a t_F, oqF2 k t_a t_F, oqF3 k t_a t_F, oqF4 k t_a t_F, oqF5 k t_a t_F, oqF6 k t_a t_F] sz (fun (u : Nat → Int32) => u = jnW (t_F 0) (t_N 0) i) (fun (u : Nat → Int32) => [oq5 t (t_a 0) (t_a 1) (t_a 2) (t_a 3) (t_a 4) (t_a 5) (t_a 6) (nI (t_N 0 - 1)) (nI (t_N 1)) (t_J 0) (t_J 1) (t_J 2) (nI (t_N 2)) (nI (t_N 3)) (nI (t_N 4)), oqI k (t_a 0) 8 (u), oqF1 k t_a t_F, oqF2 k t_a t_F, oqF3 k t_a t_F, oqF4 k t_a t_F, oqF5 k t_a t_F, oqF6 k t_a t_F]) := by
  refine Met.ofW (cc := cX6_joinWithNext) (maxL := 3) (ret := none) hpn_X6 rfl ?_
  intro p e s m args below meth c s₁ B hml hv
  obtain ⟨rfl, hsz, hP, hK, hD0, hN⟩ := hv
  have hx := B.exec
  have hb := B.bytes
  have hr := B.returns
  have hlocks := B.notSynchronized
  have hts := atoms_spec (ws := wsX6_joinWithNext) B.pre
  have hown := findClass_of_methodNamed B.named
  have hown : s.vm.findClass RX6 = some m.cls := hown
  have hiX6 : ∀ w ∈ u_ws RX6 TX6 15, w ∈ wsX6_joinWithNext := fun w9 hw9 => List.mem_cons_of_mem _ (igX6 w9 hw9)
  have fl9 := hts (.fieldLink RX6 9 "HalfScales$Thing" "weights" "[I") (List.mem_cons_of_mem _ (hs_inG 1 35 rfl rfl))
  have fl36 := hts (.fieldLink RX6 36 "HalfScales$Thing" "cellCount" "I") (List.mem_cons_of_mem _ (hs_inG 1 51 rfl rfl))
  have mm79 := hts (.methodLink RX6 79 Lib.Math.min.name) (List.mem_cons_of_mem _ (hs_inG 3 4 rfl rfl))
  have msmin := hts (.static Lib.Math.min.name) (List.mem_cons_of_mem _ (hs_inG 3 5 rfl rfl))
  have mi := hts (.initialized "java/lang/Math") (List.mem_cons_of_mem _ (hs_inG 1 14 rfl rfl))
  have mcmin := hts (.code Lib.Math.min.name Lib.Math.min.code 2 (some .int)) (List.mem_cons_of_mem _ (hs_inG 3 6 rfl rfl))
  subst hsz
  have hD := hD0.self (sz := s.heap.size)
  generalize hAe : va_A [oqT t t_a t_N t_J, oqF0 k t_a t_F, oqF1 k t_a t_F, oqF2 k t_a t_F, oqF3 k t_a t_F, oqF4 k t_a t_F, oqF5 k t_a t_F, oqF6 k t_a t_F] s.heap.size = A at hD ⊢
  have hA : ∀ q : Nat, s.heap.size ≤ q → A q := fun q h => by rw [← hAe]; exact Or.inr h
  have hS : va_S A s.heap s.heap [] := va_S.rf
  have hl := lv_entry ([.ref t, .int (nI i)]) (n := 3) (Nat.le_of_ble_eq_true rfl)
  rw [lg_entry_eq]
  generalize (lg_sl ([.ref t, .int (nI i)]) ++ List.replicate (3 - (lg_sl ([.ref t, .int (nI i)])).length) Slot.unset).toArray = ls at hl ⊢
  have hl : lv_has ls 3 [(0, .ref t), (1, .int (nI i))] := hl
  have hP : va_P D vwCl [oqT t t_a t_N t_J, oqF0 k t_a t_F, oqF1 k t_a t_F, oqF2 k t_a t_F, oqF3 k t_a t_F, oqF4 k t_a t_F, oqF5 k t_a t_F, oqF6 k t_a t_F] s.heap := hP
  refine lv_aload_n hx hb dX6_joinWithNext_0 rfl (lv_at hl 0 rfl) ?_
  refine va_get (D := D) (ci := 5) (v := .ref (t_a 0)) (C := RX6) (T := TX6) (N := 15) hx hb hts hiX6 hown hK hP 0 rfl rfl 0 (Nat.le_of_ble_eq_true rfl) fl9 (fun _ h9 => h9) rfl dX6_joinWithNext_1 ?_
  refine lv_iload_n hx hb dX6_joinWithNext_4 rfl (lv_at hl 1 rfl) ?_
  refine lv_bipush (v := 9) hx hb dX6_joinWithNext_5 hkb_9 ?_
  refine lv_aload_n hx hb dX6_joinWithNext_7 rfl (lv_at hl 0 rfl) ?_
  refine va_get (D := D) (ci := 5) (v := .ref (t_a 0)) (C := RX6) (T := TX6) (N := 15) hx hb hts hiX6 hown hK hP 0 rfl rfl 0 (Nat.le_of_ble_eq_true rfl) fl9 (fun _ h9 => h9) rfl dX6_joinWithNext_8 ?_
  refine lv_iload_n hx hb dX6_joinWithNext_11 rfl (lv_at hl 1 rfl) ?_
  refine va_iald hx hb hK hP 1 0 rfl rfl (vp_in_nI (show i < 8 by omega) (by decide)) dX6_joinWithNext_12 ?_
  refine hs_topi (t_F 0 i) (by rw [nI_clamp (by omega)]) ?_
  refine lv_aload_n hx hb dX6_joinWithNext_13 rfl (lv_at hl 0 rfl) ?_
  refine va_get (D := D) (ci := 5) (v := .ref (t_a 0)) (C := RX6) (T := TX6) (N := 15) hx hb hts hiX6 hown hK hP 0 rfl rfl 0 (Nat.le_of_ble_eq_true rfl) fl9 (fun _ h9 => h9) rfl dX6_joinWithNext_14 ?_
  refine lv_iload_n hx hb dX6_joinWithNext_17 rfl (lv_at hl 1 rfl) ?_
  refine lv_iconst (v := 1) hx hb dX6_joinWithNext_18 hki_1 ?_
  refine lv_iadd hx hb dX6_joinWithNext_19 ?_
  refine hs_topi (nI (i + 1)) (nI_add (i) (1)) ?_
  refine va_iald hx hb hK hP 1 0 rfl rfl (vp_in_nI (show (i + 1) < 8 by omega) (by decide)) dX6_joinWithNext_20 ?_
  refine hs_topi (t_F 0 (i + 1)) (by rw [nI_clamp (by omega)]) ?_
  refine lv_iadd hx hb dX6_joinWithNext_21 ?_
  refine va_mmin hx hb (hml.trans hl.1.symm) hown mm79 msmin mi mcmin (Nat.le_of_ble_eq_true rfl) (Nat.le_of_ble_eq_true rfl) (Nat.zero_le _) (Nat.zero_le _) dX6_joinWithNext_22 ?_
  refine va_iast hx hb hK hP hD hS 1 0 rfl rfl (vp_in_nI (show i < 8 by omega) (by decide)) dX6_joinWithNext_25 (fun H locs hP hD hS => ?_)
  have hE : upd (t_F 0) ((nI i).toNatClampNeg) (if ((t_F 0 i) + (t_F 0 (i + 1))) < 9 then ((t_F 0 i) + (t_F 0 (i + 1))) else 9) = upd (t_F 0) i (jmin (t_F 0 i) (t_F 0 (i + 1))) := (by rw [nI_clamp (by omega)]; rfl)
  have hP : va_P D vwCl [oqT t t_a t_N t_J, oqI k (t_a 0) 8 (upd (t_F 0) ((nI i).toNatClampNeg) (if ((t_F 0 i) + (t_F 0 (i + 1))) < 9 then ((t_F 0 i) + (t_F 0 (i + 1))) else 9)), oqF1 k t_a t_F, oqF2 k t_a t_F, oqF3 k t_a t_F, oqF4 k t_a t_F, oqF5 k t_a t_F, oqF6 k t_a t_F] H := hP
  have hD : va_D A [oqT t t_a t_N t_J, oqI k (t_a 0) 8 (upd (t_F 0) ((nI i).toNatClampNeg) (if ((t_F 0 i) + (t_F 0 (i + 1))) < 9 then ((t_F 0 i) + (t_F 0 (i + 1))) else 9)), oqF1 k t_a t_F, oqF2 k t_a t_F, oqF3 k t_a t_F, oqF4 k t_a t_F, oqF5 k t_a t_F, oqF6 k t_a t_F] := hD
  rw [hE] at hP hD
  refine lv_iload_n hx hb dX6_joinWithNext_26 rfl (lv_at hl 1 rfl) ?_
  refine lv_iconst (v := 1) hx hb dX6_joinWithNext_27 hki_1 ?_
  refine lv_iadd hx hb dX6_joinWithNext_28 ?_
  refine hs_topi (nI (i + 1)) (nI_add (i) (1)) ?_
  refine lv_istore_n (lv' := [(2, .int (nI (i + 1))), (0, .ref t), (1, .int (nI i))]) hx hb dX6_joinWithNext_29 rfl hl (Nat.le_of_ble_eq_true rfl) rfl (fun ls hl => ?_)
  refine hs_while (σ := Nat × (Nat → Int32)) (fun x => i + 1 ≤ x.1 ∧ x.1 ≤ t_N 0 - 1 ∧ x.2 = shl (upd (t_F 0) i (jmin (t_F 0 i) (t_F 0 (i + 1)))) (i + 1) x.1) (fun x => t_N 0 - x.1) (fun x => [oqT t t_a t_N t_J, oqI k (t_a 0) 8 ((x.2)), oqF1 k t_a t_F, oqF2 k t_a t_F, oqF3 k t_a t_F, oqF4 k t_a t_F, oqF5 k t_a t_F, oqF6 k t_a t_F]) (fun x => [(2, .int (nI (x.1))), (0, .ref t), (1, .int (nI i))]) ?_ (i + 1, upd (t_F 0) i (jmin (t_F 0 i) (t_F 0 (i + 1)))) ?_ hP hD hS hl
  · intro x hI ih30 H locs ls hP hD hS hl
    obtain ⟨jj, wf⟩ := x
    try dsimp only at hI
    have hP : va_P D vwCl [_, oqI k (t_a 0) 8 (wf), _, _, _, _, _, _] H := hP
    have hD : va_D A [_, oqI k (t_a 0) 8 (wf), _, _, _, _, _, _] := hD
    have hl : lv_has ls 3 [(2, .int (nI jj)), (0, .ref t), (1, .int (nI i))] := hl
    refine lv_iload_n hx hb dX6_joinWithNext_30 rfl (lv_at hl 0 rfl) ?_
    refine lv_aload_n hx hb dX6_joinWithNext_31 rfl (lv_at hl 1 rfl) ?_
    refine va_get (D := D) (ci := 5) (v := .int (nI (t_N 0))) (C := RX6) (T := TX6) (N := 15) hx hb hts hiX6 hown hK hP 0 rfl rfl 7 (Nat.le_of_ble_eq_true rfl) fl36 (fun _ h9 => h9) rfl dX6_joinWithNext_32 ?_
    refine lv_iconst (v := 1) hx hb dX6_joinWithNext_35 hki_1 ?_
    refine lv_isub hx hb dX6_joinWithNext_36 ?_
    refine hs_topi (nI ((t_N 0) - 1)) (pk_sub (a := (t_N 0)) (b := 1) (by omega)) ?_
    refine lv_icmp_ge (tgt := 60) hx hb dX6_joinWithNext_37 rfl (fun c_1 => ?_) (fun c_1 => ?_)
    · have nc_1 : ((t_N 0) - 1) ≤ jj := (nI_leI (a := ((t_N 0) - 1)) (b := jj) (by omega) (by omega)).mp c_1
      refine lv_aload_n hx hb dX6_joinWithNext_60 rfl (lv_at hl 1 rfl) ?_
      refine lv_dup hx hb dX6_joinWithNext_61 rfl ?_
      refine va_get (D := D) (ci := 5) (v := .int (nI (t_N 0))) (C := RX6) (T := TX6) (N := 15) hx hb hts hiX6 hown hK hP 0 rfl rfl 7 (Nat.le_of_ble_eq_true rfl) fl36 (fun _ h9 => h9) rfl dX6_joinWithNext_62 ?_
      refine lv_iconst (v := 1) hx hb dX6_joinWithNext_65 hki_1 ?_
      refine lv_isub hx hb dX6_joinWithNext_66 ?_
      refine hs_topi (nI ((t_N 0) - 1)) (pk_sub (a := (t_N 0)) (b := 1) (by omega)) ?_
      refine va_put (D := D) (ci := 5) (v := .int (nI ((t_N 0) - 1))) (ty := .int) (C := RX6) (T := TX6) (N := 15) hx hb hts hiX6 tyX6 tyX6_ok nmX6 hown hK hP hD hS 0 rfl rfl 7 (Nat.le_of_ble_eq_true rfl) fl36 (fun _ h9 => h9) rfl (by decide +kernel) rfl rfl (Nat.le_of_ble_eq_true rfl) dX6_joinWithNext_67 (fun H locs hP hD hS => ?_)
      have hP : va_P D vwCl [oq5 t (t_a 0) (t_a 1) (t_a 2) (t_a 3) (t_a 4) (t_a 5) (t_a 6) (nI ((t_N 0) - 1)) (nI (t_N 1)) (t_J 0) (t_J 1) (t_J 2) (nI (t_N 2)) (nI (t_N 3)) (nI (t_N 4)), _, _, _, _, _, _, _] H := hP
      have hD : va_D A [oq5 t (t_a 0) (t_a 1) (t_a 2) (t_a 3) (t_a 4) (t_a 5) (t_a 6) (nI ((t_N 0) - 1)) (nI (t_N 1)) (t_J 0) (t_J 1) (t_J 2) (nI (t_N 2)) (nI (t_N 3)) (nI (t_N 4)), _, _, _, _, _, _, _] := hD
      exact hs_vret hx hb hr hlocks hK hP hD hS wf [0, 1, 2, 3, 4, 5, 6, 7] rfl (hs_upnd rfl) dX6_joinWithNext_70 ((by (try dsimp only); rw [hI.2.2, show jj = t_N 0 - 1 by omega]; rfl))
    · have nc_1 : ¬ ((t_N 0) - 1) ≤ jj := fun hq9 => c_1 ((nI_leI (a := ((t_N 0) - 1)) (b := jj) (by omega) (by omega)).mpr hq9)
      refine lv_aload_n hx hb dX6_joinWithNext_40 rfl (lv_at hl 1 rfl) ?_
      refine va_get (D := D) (ci := 5) (v := .ref (t_a 0)) (C := RX6) (T := TX6) (N := 15) hx hb hts hiX6 hown hK hP 0 rfl rfl 0 (Nat.le_of_ble_eq_true rfl) fl9 (fun _ h9 => h9) rfl dX6_joinWithNext_41 ?_
      refine lv_iload_n hx hb dX6_joinWithNext_44 rfl (lv_at hl 0 rfl) ?_
      refine lv_aload_n hx hb dX6_joinWithNext_45 rfl (lv_at hl 1 rfl) ?_
      refine va_get (D := D) (ci := 5) (v := .ref (t_a 0)) (C := RX6) (T := TX6) (N := 15) hx hb hts hiX6 hown hK hP 0 rfl rfl 0 (Nat.le_of_ble_eq_true rfl) fl9 (fun _ h9 => h9) rfl dX6_joinWithNext_46 ?_
      refine lv_iload_n hx hb dX6_joinWithNext_49 rfl (lv_at hl 0 rfl) ?_
      refine lv_iconst (v := 1) hx hb dX6_joinWithNext_50 hki_1 ?_
      refine lv_iadd hx hb dX6_joinWithNext_51 ?_
      refine hs_topi (nI (jj + 1)) (nI_add (jj) (1)) ?_
      refine va_iald hx hb hK hP 1 0 rfl rfl (vp_in_nI (show (jj + 1) < 8 by omega) (by decide)) dX6_joinWithNext_52 ?_
      refine va_iast hx hb hK hP hD hS 1 0 rfl rfl (vp_in_nI (show jj < 8 by omega) (by decide)) dX6_joinWithNext_53 (fun H locs hP hD hS => ?_)
      have hP : va_P D vwCl [oqT t t_a t_N t_J, oqI k (t_a 0) 8 (upd wf ((nI jj).toNatClampNeg) (wf (nI (jj + 1)).toNatClampNeg)), _, _, _, _, _, _] H := hP
      have hD : va_D A [oqT t t_a t_N t_J, oqI k (t_a 0) 8 (upd wf ((nI jj).toNatClampNeg) (wf (nI (jj + 1)).toNatClampNeg)), _, _, _, _, _, _] := hD
      refine lv_iinc (v := nI (jj + 1)) (lv' := [(2, .int (nI (jj + 1))), (0, .ref t), (1, .int (nI i))]) hx hb dX6_joinWithNext_54 hl (k := 0) rfl (nI_add (jj) 1) (Nat.le_of_ble_eq_true rfl) rfl (fun ls hl => ?_)
      refine lv_goto (tgt := 30) hx hb dX6_joinWithNext_57 rfl ?_
      exact ih30 (jj + 1, upd wf ((nI jj).toNatClampNeg) (wf (nI (jj + 1)).toNatClampNeg)) (by (try dsimp only); exact ⟨by omega, by omega, shl_s hI.2.2 (by omega) (by omega)⟩) (by (try dsimp only); omega) _ _ _ hP hD hS (lv_sub hl [0, 1, 2] rfl)
  · (try dsimp only); exact ⟨by omega, by omega, shl_0.symm⟩

set_option maxHeartbeats 4000000 in
set_option maxRecDepth 100000 in
theorem gpf_join (l : Launch) (D : va_G) (k : Nat → ClassId) (sz : Nat) (h : Nat) (h_now : Nat) (h_trial : Nat) (h_images : Nat) (h_imageThere : Nat) (h_teller : Nat) (h_ranks : Nat) (h_court : Nat) (h_sheets : Nat) (h_lf : Int32) (h_lt : Int32) (n_a : Nat → Nat) (n_N : Nat → Nat) (n_J : Nat → Int32) (n_F : Nat → Nat → Int32) (i : Int32) (hN0 : thN n_N) (hF : thF n_N n_F) (h2 : 2 ≤ n_N 0) : MI l yX7_join wsX7_join ({ frames := 2, cells := 0, slots := 0, locals := 43 }) D k [.ref h, .int i] [oq6 h h_now h_trial h_images h_imageThere h_teller h_ranks h_court h_sheets h_lf h_lt, oqT h_now n_a n_N n_J, oqF0 k n_a n_F, oqF1 k n_a n_F, oqF2 k n_a n_F, oqF3 k n_a n_F, oqF4 k n_a n_F, oqF5 k n_a n_F, oqF6 k n_a n_F] sz (fun (r : Int32) (u : Nat × (Nat → Int32)) => cJn (n_N 0) (n_F 0) i r u) (fun (u : Nat × (Nat → Int32)) => [oq6 h h_now h_trial h_images h_imageThere h_teller h_ranks h_court h_sheets h_lf h_lt, oq5 h_now (n_a 0) (n_a 1) (n_a 2) (n_a 3) (n_a 4) (n_a 5) (n_a 6) (nI (u.1)) (nI (n_N 1)) (n_J 0) (n_J 1) (n_J 2) (nI (n_N 2)) (nI (n_N 3)) (nI (n_N 4)), oqI k (n_a 0) 8 (u.2), oqF1 k n_a n_F, oqF2 k n_a n_F, oqF3 k n_a n_F, oqF4 k n_a n_F, oqF5 k n_a n_F, oqF6 k n_a n_F]) := by
  refine Met.ofW (cc := cX7_join) (maxL := 2) (ret := (some .int)) hpn_X7 rfl ?_
  intro p e s m args below meth c s₁ B hml hv
  obtain ⟨rfl, hsz, hP, hK, hD0, hN⟩ := hv
  have hx := B.exec
  have hb := B.bytes
  have hr := B.returns
  have hlocks := B.notSynchronized
  have hts := atoms_spec (ws := wsX7_join) B.pre
  have hown := findClass_of_methodNamed B.named
  have hown : s.vm.findClass RX7 = some m.cls := hown
  have hiX6 : ∀ w ∈ u_ws RX6 TX6 15, w ∈ wsX7_join := fun w9 hw9 => List.mem_cons_of_mem _ (igX6 w9 hw9)
  have hiX7 : ∀ w ∈ u_ws RX7 TX7 10, w ∈ wsX7_join := fun w9 hw9 => List.mem_cons_of_mem _ (igX7 w9 hw9)
  have fl10 := hts (.fieldLink RX7 10 "HalfScales" "now" "LHalfScales$Thing;") (List.mem_cons_of_mem _ (hs_inG 1 215 rfl rfl))
  have fl93 := hts (.fieldLink RX7 93 "HalfScales$Thing" "cellCount" "I") (List.mem_cons_of_mem _ (hs_inG 1 53 rfl rfl))
  have hNn := hN0
  obtain ⟨I0, I1, ⟨I2, I2b⟩, I3, I4⟩ := hN0
  subst hsz
  have hD := hD0.self (sz := s.heap.size)
  generalize hAe : va_A [oq6 h h_now h_trial h_images h_imageThere h_teller h_ranks h_court h_sheets h_lf h_lt, oqT h_now n_a n_N n_J, oqF0 k n_a n_F, oqF1 k n_a n_F, oqF2 k n_a n_F, oqF3 k n_a n_F, oqF4 k n_a n_F, oqF5 k n_a n_F, oqF6 k n_a n_F] s.heap.size = A at hD ⊢
  have hA : ∀ q : Nat, s.heap.size ≤ q → A q := fun q h => by rw [← hAe]; exact Or.inr h
  have hS : va_S A s.heap s.heap [] := va_S.rf
  have hl := lv_entry ([.ref h, .int i]) (n := 2) (Nat.le_of_ble_eq_true rfl)
  rw [lg_entry_eq]
  generalize (lg_sl ([.ref h, .int i]) ++ List.replicate (2 - (lg_sl ([.ref h, .int i])).length) Slot.unset).toArray = ls at hl ⊢
  have hl : lv_has ls 2 [(0, .ref h), (1, .int i)] := hl
  have hP : va_P D vwCl [oq6 h h_now h_trial h_images h_imageThere h_teller h_ranks h_court h_sheets h_lf h_lt, oqT h_now n_a n_N n_J, oqF0 k n_a n_F, oqF1 k n_a n_F, oqF2 k n_a n_F, oqF3 k n_a n_F, oqF4 k n_a n_F, oqF5 k n_a n_F, oqF6 k n_a n_F] s.heap := hP
  refine lv_aload_n hx hb dX7_join_0 rfl (lv_at hl 0 rfl) ?_
  refine va_get (D := D) (ci := 6) (v := .ref h_now) (C := RX7) (T := TX7) (N := 10) hx hb hts hiX7 hown hK hP 0 rfl rfl 0 (Nat.le_of_ble_eq_true rfl) fl10 (fun _ h9 => h9) rfl dX7_join_1 ?_
  refine lv_iload_n hx hb dX7_join_4 rfl (lv_at hl 1 rfl) ?_
  refine hs_ciM (va_runV (As := [.int i]) (rest := []) ⟨hx, hb, hml, hown, hts⟩ (g_isCell l D k _ h_now n_a n_N n_J i (by first | assumption | exact ⟨by first | omega | (dsimp; omega), by first | omega | (dsimp; omega), ⟨by first | omega | (dsimp; omega), by first | omega | (dsimp; omega)⟩, by first | omega | (dsimp; omega), by first | omega | (dsimp; omega)⟩)) (cwV 1 hts gX7_join_X6_isCell rfl rfl rfl ⟨rfl, hq_X6_isCell⟩ ⟨Nat.le_of_ble_eq_true rfl, Nat.le_of_ble_eq_true rfl⟩) (hs_preV hK hN (hs_subP (w := [_]) hP [1] rfl) (hD.sub (ws' := [_]) [1] (hs_upnd rfl) rfl) (ci := 5) (q0 := 0) rfl rfl) rfl rfl hl.1 rfl (lv_room (Nat.le_of_ble_eq_true rfl)) dX7_join_5 ⟨Nat.le_of_ble_eq_true rfl, Nat.le_of_ble_eq_true rfl⟩) hP hD hS hA [true, false, true, true, true, true, true, true, true] [_, _, _, _, _, _, _, _] [_] rfl [0] rfl [0] (fun u_3 => [_]) (fun _ => rfl) (hs_upnd rfl) [true, false, true, true, true, true, true, true, true] (fun u_3 => [_, _, _, _, _, _, _, _, _]) (fun _ => rfl) (fun r_1 u_3 H locs hw_2 hP hD hS => ?_)
  refine hs_topi (hsb (hslt i (n_N 0))) hw_2 ?_
  refine lv_if_eq (tgt := 24) hx hb dX7_join_8 rfl (fun c_4 => ?_) (fun c_4 => ?_)
  · refine lv_iconst (v := (-1)) hx hb dX7_join_24 hki_m1 ?_
    exact hs_iret hx hb hr hlocks hK hP hD hS (n_N 0, n_F 0) [0, 1, 2, 3, 4, 5, 6, 7, 8] rfl (hs_upnd rfl) dX7_join_25 (Or.inl ⟨fun z9 => hslt_no (by omega) (hs_n0 c_4) (by obtain ⟨j9, hj9, ej9⟩ := z9; exact ⟨j9, by omega, ej9⟩), rfl, rfl⟩)
  · obtain ⟨j_5, hj_5, rfl⟩ := hslt_ex (hs_nb c_4)
    refine lv_aload_n hx hb dX7_join_11 rfl (lv_at hl 0 rfl) ?_
    refine va_get (D := D) (ci := 6) (v := .ref h_now) (C := RX7) (T := TX7) (N := 10) hx hb hts hiX7 hown hK hP 0 rfl rfl 0 (Nat.le_of_ble_eq_true rfl) fl10 (fun _ h9 => h9) rfl dX7_join_12 ?_
    refine lv_iload_n hx hb dX7_join_15 rfl (lv_at hl 1 rfl) ?_
    refine lv_iconst (v := 1) hx hb dX7_join_16 hki_1 ?_
    refine lv_iadd hx hb dX7_join_17 ?_
    refine hs_topi (nI (j_5 + 1)) (nI_add (j_5) (1)) ?_
    refine hs_ciM (va_runV (As := [.int (nI (j_5 + 1))]) (rest := []) ⟨hx, hb, hml, hown, hts⟩ (g_isCell l D k _ h_now n_a n_N n_J (nI (j_5 + 1)) (by first | assumption | exact ⟨by first | omega | (dsimp; omega), by first | omega | (dsimp; omega), ⟨by first | omega | (dsimp; omega), by first | omega | (dsimp; omega)⟩, by first | omega | (dsimp; omega), by first | omega | (dsimp; omega)⟩)) (cwV 1 hts gX7_join_X6_isCell rfl rfl rfl ⟨rfl, hq_X6_isCell⟩ ⟨Nat.le_of_ble_eq_true rfl, Nat.le_of_ble_eq_true rfl⟩) (hs_preV hK hN (hs_subP (w := [_]) hP [1] rfl) (hD.sub (ws' := [_]) [1] (hs_upnd rfl) rfl) (ci := 5) (q0 := 0) rfl rfl) rfl rfl hl.1 rfl (lv_room (Nat.le_of_ble_eq_true rfl)) dX7_join_18 ⟨Nat.le_of_ble_eq_true rfl, Nat.le_of_ble_eq_true rfl⟩) hP hD hS hA [true, false, true, true, true, true, true, true, true] [_, _, _, _, _, _, _, _] [_] rfl [0] rfl [0] (fun u_8 => [_]) (fun _ => rfl) (hs_upnd rfl) [true, false, true, true, true, true, true, true, true] (fun u_8 => [_, _, _, _, _, _, _, _, _]) (fun _ => rfl) (fun r_6 u_8 H locs hw_7 hP hD hS => ?_)
    refine hs_topi (hsb (hslt (nI (j_5 + 1)) (n_N 0))) hw_7 ?_
    refine lv_if_ne (tgt := 26) hx hb dX7_join_21 rfl (fun c_9 => ?_) (fun c_9 => ?_)
    · have hjn := hslt_lt (by omega) (hs_nb c_9)
      refine lv_aload_n hx hb dX7_join_26 rfl (lv_at hl 0 rfl) ?_
      refine va_get (D := D) (ci := 6) (v := .ref h_now) (C := RX7) (T := TX7) (N := 10) hx hb hts hiX7 hown hK hP 0 rfl rfl 0 (Nat.le_of_ble_eq_true rfl) fl10 (fun _ h9 => h9) rfl dX7_join_27 ?_
      refine va_get (D := D) (ci := 5) (v := .int (nI (n_N 0))) (C := RX6) (T := TX6) (N := 15) hx hb hts hiX6 hown hK hP 1 rfl rfl 7 (Nat.le_of_ble_eq_true rfl) fl93 (fun _ h9 => h9) rfl dX7_join_30 ?_
      refine lv_iconst (v := 2) hx hb dX7_join_33 hki_2 ?_
      refine lv_icmp_gt (tgt := 40) hx hb dX7_join_34 rfl (fun c_10 => ?_) (fun c_10 => ?_)
      · have nc_10 : 2 < (n_N 0) := (nI_ltI (a := 2) (b := (n_N 0)) (by omega) (by omega)).mp c_10
        refine lv_aload_n hx hb dX7_join_40 rfl (lv_at hl 0 rfl) ?_
        refine va_get (D := D) (ci := 6) (v := .ref h_now) (C := RX7) (T := TX7) (N := 10) hx hb hts hiX7 hown hK hP 0 rfl rfl 0 (Nat.le_of_ble_eq_true rfl) fl10 (fun _ h9 => h9) rfl dX7_join_41 ?_
        refine lv_iload_n hx hb dX7_join_44 rfl (lv_at hl 1 rfl) ?_
        refine hs_cvM (va_runV (As := [.int (nI j_5)]) (rest := []) ⟨hx, hb, hml, hown, hts⟩ (gf_joinWithNext l D k _ h_now n_a n_N n_J n_F j_5 (by omega) (by omega)) (cwV 1 hts gX7_join_X6_joinWithNext rfl rfl rfl ⟨rfl, hq_X6_joinWithNext⟩ ⟨Nat.le_of_ble_eq_true rfl, Nat.le_of_ble_eq_true rfl⟩) (hs_preV hK hN (hs_subP (w := [_, _, _, _, _, _, _, _]) hP [1, 2, 3, 4, 5, 6, 7, 8] rfl) (hD.sub (ws' := [_, _, _, _, _, _, _, _]) [1, 2, 3, 4, 5, 6, 7, 8] (hs_upnd rfl) rfl) (ci := 5) (q0 := 0) rfl rfl) rfl rfl hl.1 rfl (lv_room (Nat.le_of_ble_eq_true rfl)) dX7_join_45 ⟨Nat.le_of_ble_eq_true rfl, Nat.le_of_ble_eq_true rfl⟩) hP hD hS hA [true, false, false, false, false, false, false, false, false] [_] [_, _, _, _, _, _, _, _] rfl [0, 1, 2, 3, 4, 5, 6, 7] rfl [0, 1, 2, 3, 4, 5, 6, 7] (fun u_13 => [_, _, _, _, _, _, _, _]) (fun _ => rfl) (hs_upnd rfl) [true, false, false, false, false, false, false, false, false] (fun u_13 => [_, _, _, _, _, _, _, _, _]) (fun _ => rfl) (fun u_13 H locs hw_12 hP hD hS => ?_)
        have hw_12 : u_13 = jnW (n_F 0) (n_N 0) j_5 := hw_12
        subst hw_12
        refine lv_aload_n hx hb dX7_join_48 rfl (lv_at hl 0 rfl) ?_
        refine va_get (D := D) (ci := 6) (v := .ref h_now) (C := RX7) (T := TX7) (N := 10) hx hb hts hiX7 hown hK hP 0 rfl rfl 0 (Nat.le_of_ble_eq_true rfl) fl10 (fun _ h9 => h9) rfl dX7_join_49 ?_
        refine va_get (D := D) (ci := 5) (v := .int (nI (n_N 0 - 1))) (C := RX6) (T := TX6) (N := 15) hx hb hts hiX6 hown hK hP 1 rfl rfl 7 (Nat.le_of_ble_eq_true rfl) fl93 (fun _ h9 => h9) rfl dX7_join_52 ?_
        exact hs_iret hx hb hr hlocks hK hP hD hS (n_N 0 - 1, (jnW (n_F 0) (n_N 0) j_5)) [0, 1, 2, 3, 4, 5, 6, 7, 8] rfl (hs_upnd rfl) dX7_join_55 (Or.inr ⟨_, by omega, rfl, Or.inr ⟨by omega, rfl, rfl⟩⟩)
      · have nc_10 : ¬ 2 < (n_N 0) := fun hq9 => c_10 ((nI_ltI (a := 2) (b := (n_N 0)) (by omega) (by omega)).mpr hq9)
        refine lv_bipush (v := (-2)) hx hb dX7_join_37 hkb_m2 ?_
        exact hs_iret hx hb hr hlocks hK hP hD hS (n_N 0, n_F 0) [0, 1, 2, 3, 4, 5, 6, 7, 8] rfl (hs_upnd rfl) dX7_join_39 (Or.inr ⟨_, by omega, rfl, Or.inl ⟨by omega, rfl, rfl⟩⟩)
    · refine lv_iconst (v := (-1)) hx hb dX7_join_24 hki_m1 ?_
      exact hs_iret hx hb hr hlocks hK hP hD hS (n_N 0, n_F 0) [0, 1, 2, 3, 4, 5, 6, 7, 8] rfl (hs_upnd rfl) dX7_join_25 (Or.inl ⟨fun z9 => hslt_no (by omega) (hs_n0 c_9) (by obtain ⟨j9, hj9, ej9⟩ := z9; have e9 := (nI_eq (by omega) (by omega)).mp ej9; exact ⟨_, (show _ < n_N 0 by omega), rfl⟩), rfl, rfl⟩)

set_option maxHeartbeats 4000000 in
set_option maxRecDepth 100000 in
theorem gpf_set (l : Launch) (D : va_G) (k : Nat → ClassId) (sz : Nat) (h : Nat) (h_now : Nat) (h_trial : Nat) (h_images : Nat) (h_imageThere : Nat) (h_teller : Nat) (h_ranks : Nat) (h_court : Nat) (h_sheets : Nat) (h_lf : Int32) (h_lt : Int32) (n_a : Nat → Nat) (n_N : Nat → Nat) (n_J : Nat → Int32) (what : Int32) (v : Int32)  : MI l yX7_set wsX7_set ({ frames := 1, cells := 0, slots := 0, locals := 22 }) D k [.ref h, .int what, .int v] [oq6 h h_now h_trial h_images h_imageThere h_teller h_ranks h_court h_sheets h_lf h_lt, oqT h_now n_a n_N n_J] sz (fun (r : Int32) (u : Int32 × Int32) => cSe (n_J 0) (n_J 1) what v r u) (fun (u : Int32 × Int32) => [oq6 h h_now h_trial h_images h_imageThere h_teller h_ranks h_court h_sheets h_lf h_lt, oq5 h_now (n_a 0) (n_a 1) (n_a 2) (n_a 3) (n_a 4) (n_a 5) (n_a 6) (nI (n_N 0)) (nI (n_N 1)) u.1 u.2 (n_J 2) (nI (n_N 2)) (nI (n_N 3)) (nI (n_N 4))]) := by
  refine Met.ofW (cc := cX7_set) (maxL := 4) (ret := (some .int)) hpn_X7 rfl ?_
  intro p e s m args below meth c s₁ B hml hv
  obtain ⟨rfl, hsz, hP, hK, hD0, hN⟩ := hv
  have hx := B.exec
  have hb := B.bytes
  have hr := B.returns
  have hlocks := B.notSynchronized
  have hts := atoms_spec (ws := wsX7_set) B.pre
  have hown := findClass_of_methodNamed B.named
  have hown : s.vm.findClass RX7 = some m.cls := hown
  have hiX6 : ∀ w ∈ u_ws RX6 TX6 15, w ∈ wsX7_set := fun w9 hw9 => List.mem_cons_of_mem _ (igX6 w9 hw9)
  have hiX7 : ∀ w ∈ u_ws RX7 TX7 10, w ∈ wsX7_set := fun w9 hw9 => List.mem_cons_of_mem _ (igX7 w9 hw9)
  have fl10 := hts (.fieldLink RX7 10 "HalfScales" "now" "LHalfScales$Thing;") (List.mem_cons_of_mem _ (hs_inG 1 215 rfl rfl))
  have fl102 := hts (.fieldLink RX7 102 "HalfScales$Thing" "fine" "I") (List.mem_cons_of_mem _ (hs_inG 1 65 rfl rfl))
  have fl99 := hts (.fieldLink RX7 99 "HalfScales$Thing" "slip" "I") (List.mem_cons_of_mem _ (hs_inG 1 61 rfl rfl))
  subst hsz
  have hD := hD0.self (sz := s.heap.size)
  generalize hAe : va_A [oq6 h h_now h_trial h_images h_imageThere h_teller h_ranks h_court h_sheets h_lf h_lt, oqT h_now n_a n_N n_J] s.heap.size = A at hD ⊢
  have hA : ∀ q : Nat, s.heap.size ≤ q → A q := fun q h => by rw [← hAe]; exact Or.inr h
  have hS : va_S A s.heap s.heap [] := va_S.rf
  have hl := lv_entry ([.ref h, .int what, .int v]) (n := 4) (Nat.le_of_ble_eq_true rfl)
  rw [lg_entry_eq]
  generalize (lg_sl ([.ref h, .int what, .int v]) ++ List.replicate (4 - (lg_sl ([.ref h, .int what, .int v])).length) Slot.unset).toArray = ls at hl ⊢
  have hl : lv_has ls 4 [(0, .ref h), (1, .int what), (2, .int v)] := hl
  have hP : va_P D vwCl [oq6 h h_now h_trial h_images h_imageThere h_teller h_ranks h_court h_sheets h_lf h_lt, oqT h_now n_a n_N n_J] s.heap := hP
  refine lv_iload_n hx hb dX7_set_0 rfl (lv_at hl 1 rfl) ?_
  refine lv_iconst (v := 2) hx hb dX7_set_1 hki_2 ?_
  refine lv_icmp_ne (tgt := 33) hx hb dX7_set_2 rfl (fun c_1 => ?_) (fun c_1 => ?_)
  · refine lv_iload_n hx hb dX7_set_33 rfl (lv_at hl 1 rfl) ?_
    refine lv_iconst (v := 3) hx hb dX7_set_34 hki_3 ?_
    refine lv_icmp_ne (tgt := 66) hx hb dX7_set_35 rfl (fun c_2 => ?_) (fun c_2 => ?_)
    · refine lv_iconst (v := (-1)) hx hb dX7_set_66 hki_m1 ?_
      exact hs_iret hx hb hr hlocks hK hP hD hS (n_J 0, n_J 1) [0, 1] rfl (hs_upnd rfl) dX7_set_67 (Or.inr (Or.inr ⟨fun z9 => c_1 z9.1, fun z9 => c_2 z9.1, rfl, rfl⟩))
    · refine lv_iload_n hx hb dX7_set_38 rfl (lv_at hl 2 rfl) ?_
      refine lv_iconst (v := 0) hx hb dX7_set_39 hki_0 ?_
      refine lv_bipush (v := 99) hx hb dX7_set_40 hkb_99 ?_
      refine hs_pi (va_runS (As := [.int v, .int 0, .int 99]) (rest := []) ⟨hx, hb, hml, hown, hts⟩ (g_within l D k _ v 0 99) (va_cwS 3 hts gX7_set_X7_within rfl rfl rfl hq_X7_within ⟨Nat.le_of_ble_eq_true rfl, Nat.le_of_ble_eq_true rfl⟩) (hs_preS hK hN (hs_subP (w := []) hP [] rfl) (hD.sub (ws' := []) [] rfl rfl)) rfl rfl hl.1 rfl (lv_room (Nat.le_of_ble_eq_true rfl)) dX7_set_42 ⟨Nat.le_of_ble_eq_true rfl, Nat.le_of_ble_eq_true rfl⟩) hP hD hS hA (fun r_3 u_5 H locs hw_4 hP hS => ?_)
      refine hs_topi (hsb (hsin v 0 99)) hw_4 ?_
      refine lv_if_eq (tgt := 66) hx hb dX7_set_45 rfl (fun c_6 => ?_) (fun c_6 => ?_)
      · refine lv_iconst (v := (-1)) hx hb dX7_set_66 hki_m1 ?_
        exact hs_iret hx hb hr hlocks hK hP hD hS (n_J 0, n_J 1) [0, 1] rfl (hs_upnd rfl) dX7_set_67 (Or.inr (Or.inr ⟨fun z9 => c_1 z9.1, fun z9 => absurd z9.2 (by rw [hs_n0 c_6]; decide), rfl, rfl⟩))
      · refine lv_aload_n hx hb dX7_set_48 rfl (lv_at hl 0 rfl) ?_
        refine va_get (D := D) (ci := 6) (v := .ref h_now) (C := RX7) (T := TX7) (N := 10) hx hb hts hiX7 hown hK hP 0 rfl rfl 0 (Nat.le_of_ble_eq_true rfl) fl10 (fun _ h9 => h9) rfl dX7_set_49 ?_
        refine va_get (D := D) (ci := 5) (v := .int (n_J 1)) (C := RX6) (T := TX6) (N := 15) hx hb hts hiX6 hown hK hP 1 rfl rfl 10 (Nat.le_of_ble_eq_true rfl) fl102 (fun _ h9 => h9) rfl dX7_set_52 ?_
        refine lv_istore_n (lv' := [(3, .int (n_J 1)), (0, .ref h), (1, .int what), (2, .int v)]) hx hb dX7_set_55 rfl hl (Nat.le_of_ble_eq_true rfl) rfl (fun ls hl => ?_)
        refine lv_aload_n hx hb dX7_set_56 rfl (lv_at hl 1 rfl) ?_
        refine va_get (D := D) (ci := 6) (v := .ref h_now) (C := RX7) (T := TX7) (N := 10) hx hb hts hiX7 hown hK hP 0 rfl rfl 0 (Nat.le_of_ble_eq_true rfl) fl10 (fun _ h9 => h9) rfl dX7_set_57 ?_
        refine lv_iload_n hx hb dX7_set_60 rfl (lv_at hl 3 rfl) ?_
        refine va_put (D := D) (ci := 5) (v := .int v) (ty := .int) (C := RX6) (T := TX6) (N := 15) hx hb hts hiX6 tyX6 tyX6_ok nmX6 hown hK hP hD hS 1 rfl rfl 10 (Nat.le_of_ble_eq_true rfl) fl102 (fun _ h9 => h9) rfl (by decide +kernel) rfl rfl (Nat.le_of_ble_eq_true rfl) dX7_set_61 (fun H locs hP hD hS => ?_)
        have hP : va_P D vwCl [oq6 h h_now h_trial h_images h_imageThere h_teller h_ranks h_court h_sheets h_lf h_lt, oq5 h_now (n_a 0) (n_a 1) (n_a 2) (n_a 3) (n_a 4) (n_a 5) (n_a 6) (nI (n_N 0)) (nI (n_N 1)) (n_J 0) v (n_J 2) (nI (n_N 2)) (nI (n_N 3)) (nI (n_N 4))] H := hP
        have hD : va_D A [oq6 h h_now h_trial h_images h_imageThere h_teller h_ranks h_court h_sheets h_lf h_lt, oq5 h_now (n_a 0) (n_a 1) (n_a 2) (n_a 3) (n_a 4) (n_a 5) (n_a 6) (nI (n_N 0)) (nI (n_N 1)) (n_J 0) v (n_J 2) (nI (n_N 2)) (nI (n_N 3)) (nI (n_N 4))] := hD
        refine lv_iload_n hx hb dX7_set_64 rfl (lv_at hl 0 rfl) ?_
        exact hs_iret hx hb hr hlocks hK hP hD hS (n_J 0, v) [0, 1] rfl (hs_upnd rfl) dX7_set_65 (Or.inr (Or.inl ⟨c_2, hs_nb c_6, rfl, rfl⟩))
  · refine lv_iload_n hx hb dX7_set_5 rfl (lv_at hl 2 rfl) ?_
    refine lv_iconst (v := 0) hx hb dX7_set_6 hki_0 ?_
    refine lv_bipush (v := 9) hx hb dX7_set_7 hkb_9 ?_
    refine hs_pi (va_runS (As := [.int v, .int 0, .int 9]) (rest := []) ⟨hx, hb, hml, hown, hts⟩ (g_within l D k _ v 0 9) (va_cwS 3 hts gX7_set_X7_within rfl rfl rfl hq_X7_within ⟨Nat.le_of_ble_eq_true rfl, Nat.le_of_ble_eq_true rfl⟩) (hs_preS hK hN (hs_subP (w := []) hP [] rfl) (hD.sub (ws' := []) [] rfl rfl)) rfl rfl hl.1 rfl (lv_room (Nat.le_of_ble_eq_true rfl)) dX7_set_9 ⟨Nat.le_of_ble_eq_true rfl, Nat.le_of_ble_eq_true rfl⟩) hP hD hS hA (fun r_7 u_9 H locs hw_8 hP hS => ?_)
    refine hs_topi (hsb (hsin v 0 9)) hw_8 ?_
    refine lv_if_eq (tgt := 33) hx hb dX7_set_12 rfl (fun c_10 => ?_) (fun c_10 => ?_)
    · refine lv_iload_n hx hb dX7_set_33 rfl (lv_at hl 1 rfl) ?_
      refine lv_iconst (v := 3) hx hb dX7_set_34 hki_3 ?_
      refine lv_icmp_ne (tgt := 66) hx hb dX7_set_35 rfl (fun c_11 => ?_) (fun c_11 => ?_)
      · refine lv_iconst (v := (-1)) hx hb dX7_set_66 hki_m1 ?_
        exact hs_iret hx hb hr hlocks hK hP hD hS (n_J 0, n_J 1) [0, 1] rfl (hs_upnd rfl) dX7_set_67 (Or.inr (Or.inr ⟨fun z9 => absurd z9.2 (by rw [hs_n0 c_10]; decide), fun z9 => c_11 z9.1, rfl, rfl⟩))
      · refine lv_iload_n hx hb dX7_set_38 rfl (lv_at hl 2 rfl) ?_
        refine lv_iconst (v := 0) hx hb dX7_set_39 hki_0 ?_
        refine lv_bipush (v := 99) hx hb dX7_set_40 hkb_99 ?_
        refine hs_pi (va_runS (As := [.int v, .int 0, .int 99]) (rest := []) ⟨hx, hb, hml, hown, hts⟩ (g_within l D k _ v 0 99) (va_cwS 3 hts gX7_set_X7_within rfl rfl rfl hq_X7_within ⟨Nat.le_of_ble_eq_true rfl, Nat.le_of_ble_eq_true rfl⟩) (hs_preS hK hN (hs_subP (w := []) hP [] rfl) (hD.sub (ws' := []) [] rfl rfl)) rfl rfl hl.1 rfl (lv_room (Nat.le_of_ble_eq_true rfl)) dX7_set_42 ⟨Nat.le_of_ble_eq_true rfl, Nat.le_of_ble_eq_true rfl⟩) hP hD hS hA (fun r_12 u_14 H locs hw_13 hP hS => ?_)
        refine hs_topi (hsb (hsin v 0 99)) hw_13 ?_
        refine lv_if_eq (tgt := 66) hx hb dX7_set_45 rfl (fun c_15 => ?_) (fun c_15 => ?_)
        · refine lv_iconst (v := (-1)) hx hb dX7_set_66 hki_m1 ?_
          exact hs_iret hx hb hr hlocks hK hP hD hS (n_J 0, n_J 1) [0, 1] rfl (hs_upnd rfl) dX7_set_67 (Or.inr (Or.inr ⟨fun z9 => absurd z9.2 (by rw [hs_n0 c_10]; decide), fun z9 => absurd z9.2 (by rw [hs_n0 c_15]; decide), rfl, rfl⟩))
        · refine lv_aload_n hx hb dX7_set_48 rfl (lv_at hl 0 rfl) ?_
          refine va_get (D := D) (ci := 6) (v := .ref h_now) (C := RX7) (T := TX7) (N := 10) hx hb hts hiX7 hown hK hP 0 rfl rfl 0 (Nat.le_of_ble_eq_true rfl) fl10 (fun _ h9 => h9) rfl dX7_set_49 ?_
          refine va_get (D := D) (ci := 5) (v := .int (n_J 1)) (C := RX6) (T := TX6) (N := 15) hx hb hts hiX6 hown hK hP 1 rfl rfl 10 (Nat.le_of_ble_eq_true rfl) fl102 (fun _ h9 => h9) rfl dX7_set_52 ?_
          refine lv_istore_n (lv' := [(3, .int (n_J 1)), (0, .ref h), (1, .int what), (2, .int v)]) hx hb dX7_set_55 rfl hl (Nat.le_of_ble_eq_true rfl) rfl (fun ls hl => ?_)
          refine lv_aload_n hx hb dX7_set_56 rfl (lv_at hl 1 rfl) ?_
          refine va_get (D := D) (ci := 6) (v := .ref h_now) (C := RX7) (T := TX7) (N := 10) hx hb hts hiX7 hown hK hP 0 rfl rfl 0 (Nat.le_of_ble_eq_true rfl) fl10 (fun _ h9 => h9) rfl dX7_set_57 ?_
          refine lv_iload_n hx hb dX7_set_60 rfl (lv_at hl 3 rfl) ?_
          refine va_put (D := D) (ci := 5) (v := .int v) (ty := .int) (C := RX6) (T := TX6) (N := 15) hx hb hts hiX6 tyX6 tyX6_ok nmX6 hown hK hP hD hS 1 rfl rfl 10 (Nat.le_of_ble_eq_true rfl) fl102 (fun _ h9 => h9) rfl (by decide +kernel) rfl rfl (Nat.le_of_ble_eq_true rfl) dX7_set_61 (fun H locs hP hD hS => ?_)
          have hP : va_P D vwCl [_, _] H := hP
          have hD : va_D A [_, _] := hD
          refine lv_iload_n hx hb dX7_set_64 rfl (lv_at hl 0 rfl) ?_
          exact hs_iret hx hb hr hlocks hK hP hD hS (n_J 0, v) [0, 1] rfl (hs_upnd rfl) dX7_set_65 (Or.inr (Or.inl ⟨c_11, hs_nb c_15, rfl, rfl⟩))
    · refine lv_aload_n hx hb dX7_set_15 rfl (lv_at hl 0 rfl) ?_
      refine va_get (D := D) (ci := 6) (v := .ref h_now) (C := RX7) (T := TX7) (N := 10) hx hb hts hiX7 hown hK hP 0 rfl rfl 0 (Nat.le_of_ble_eq_true rfl) fl10 (fun _ h9 => h9) rfl dX7_set_16 ?_
      refine va_get (D := D) (ci := 5) (v := .int (n_J 0)) (C := RX6) (T := TX6) (N := 15) hx hb hts hiX6 hown hK hP 1 rfl rfl 9 (Nat.le_of_ble_eq_true rfl) fl99 (fun _ h9 => h9) rfl dX7_set_19 ?_
      refine lv_istore_n (lv' := [(3, .int (n_J 0)), (0, .ref h), (1, .int what), (2, .int v)]) hx hb dX7_set_22 rfl hl (Nat.le_of_ble_eq_true rfl) rfl (fun ls hl => ?_)
      refine lv_aload_n hx hb dX7_set_23 rfl (lv_at hl 1 rfl) ?_
      refine va_get (D := D) (ci := 6) (v := .ref h_now) (C := RX7) (T := TX7) (N := 10) hx hb hts hiX7 hown hK hP 0 rfl rfl 0 (Nat.le_of_ble_eq_true rfl) fl10 (fun _ h9 => h9) rfl dX7_set_24 ?_
      refine lv_iload_n hx hb dX7_set_27 rfl (lv_at hl 3 rfl) ?_
      refine va_put (D := D) (ci := 5) (v := .int v) (ty := .int) (C := RX6) (T := TX6) (N := 15) hx hb hts hiX6 tyX6 tyX6_ok nmX6 hown hK hP hD hS 1 rfl rfl 9 (Nat.le_of_ble_eq_true rfl) fl99 (fun _ h9 => h9) rfl (by decide +kernel) rfl rfl (Nat.le_of_ble_eq_true rfl) dX7_set_28 (fun H locs hP hD hS => ?_)
      have hP : va_P D vwCl [_, oq5 h_now (n_a 0) (n_a 1) (n_a 2) (n_a 3) (n_a 4) (n_a 5) (n_a 6) (nI (n_N 0)) (nI (n_N 1)) v (n_J 1) (n_J 2) (nI (n_N 2)) (nI (n_N 3)) (nI (n_N 4))] H := hP
      have hD : va_D A [_, oq5 h_now (n_a 0) (n_a 1) (n_a 2) (n_a 3) (n_a 4) (n_a 5) (n_a 6) (nI (n_N 0)) (nI (n_N 1)) v (n_J 1) (n_J 2) (nI (n_N 2)) (nI (n_N 3)) (nI (n_N 4))] := hD
      refine lv_iload_n hx hb dX7_set_31 rfl (lv_at hl 0 rfl) ?_
      exact hs_iret hx hb hr hlocks hK hP hD hS (v, n_J 1) [0, 1] rfl (hs_upnd rfl) dX7_set_32 (Or.inl ⟨c_1, hs_nb c_10, rfl, rfl⟩)

set_option maxHeartbeats 4000000 in
set_option maxRecDepth 100000 in
theorem gpf_appeal (l : Launch) (D : va_G) (k : Nat → ClassId) (sz : Nat) (h : Nat) (h_now : Nat) (h_trial : Nat) (h_images : Nat) (h_imageThere : Nat) (h_teller : Nat) (h_ranks : Nat) (h_court : Nat) (h_sheets : Nat) (h_lf : Int32) (h_lt : Int32) (n_a : Nat → Nat) (n_N : Nat → Nat) (n_J : Nat → Int32)  : MI l yX7_appeal wsX7_appeal ({ frames := 1, cells := 0, slots := 0, locals := 20 }) D k [.ref h] [oq6 h h_now h_trial h_images h_imageThere h_teller h_ranks h_court h_sheets h_lf h_lt, oqT h_now n_a n_N n_J] sz (fun (r : Int32) (u : Int32 × Int32) => cAp (n_J 1) (n_J 2) r u) (fun (u : Int32 × Int32) => [oq6 h h_now h_trial h_images h_imageThere h_teller h_ranks h_court h_sheets h_lf h_lt, oq5 h_now (n_a 0) (n_a 1) (n_a 2) (n_a 3) (n_a 4) (n_a 5) (n_a 6) (nI (n_N 0)) (nI (n_N 1)) (n_J 0) u.1 u.2 (nI (n_N 2)) (nI (n_N 3)) (nI (n_N 4))]) := by
  refine Met.ofW (cc := cX7_appeal) (maxL := 1) (ret := (some .int)) hpn_X7 rfl ?_
  intro p e s m args below meth c s₁ B hml hv
  obtain ⟨rfl, hsz, hP, hK, hD0, hN⟩ := hv
  have hx := B.exec
  have hb := B.bytes
  have hr := B.returns
  have hlocks := B.notSynchronized
  have hts := atoms_spec (ws := wsX7_appeal) B.pre
  have hown := findClass_of_methodNamed B.named
  have hown : s.vm.findClass RX7 = some m.cls := hown
  have hiX6 : ∀ w ∈ u_ws RX6 TX6 15, w ∈ wsX7_appeal := fun w9 hw9 => List.mem_cons_of_mem _ (igX6 w9 hw9)
  have hiX7 : ∀ w ∈ u_ws RX7 TX7 10, w ∈ wsX7_appeal := fun w9 hw9 => List.mem_cons_of_mem _ (igX7 w9 hw9)
  have fl10 := hts (.fieldLink RX7 10 "HalfScales" "now" "LHalfScales$Thing;") (List.mem_cons_of_mem _ (hs_inG 1 215 rfl rfl))
  have fl102 := hts (.fieldLink RX7 102 "HalfScales$Thing" "fine" "I") (List.mem_cons_of_mem _ (hs_inG 1 65 rfl rfl))
  have fl105 := hts (.fieldLink RX7 105 "HalfScales$Thing" "appealCount" "I") (List.mem_cons_of_mem _ (hs_inG 1 67 rfl rfl))
  subst hsz
  have hD := hD0.self (sz := s.heap.size)
  generalize hAe : va_A [oq6 h h_now h_trial h_images h_imageThere h_teller h_ranks h_court h_sheets h_lf h_lt, oqT h_now n_a n_N n_J] s.heap.size = A at hD ⊢
  have hA : ∀ q : Nat, s.heap.size ≤ q → A q := fun q h => by rw [← hAe]; exact Or.inr h
  have hS : va_S A s.heap s.heap [] := va_S.rf
  have hl := lv_entry ([.ref h]) (n := 1) (Nat.le_of_ble_eq_true rfl)
  rw [lg_entry_eq]
  generalize (lg_sl ([.ref h]) ++ List.replicate (1 - (lg_sl ([.ref h])).length) Slot.unset).toArray = ls at hl ⊢
  have hl : lv_has ls 1 [(0, .ref h)] := hl
  have hP : va_P D vwCl [oq6 h h_now h_trial h_images h_imageThere h_teller h_ranks h_court h_sheets h_lf h_lt, oqT h_now n_a n_N n_J] s.heap := hP
  refine lv_aload_n hx hb dX7_appeal_0 rfl (lv_at hl 0 rfl) ?_
  refine va_get (D := D) (ci := 6) (v := .ref h_now) (C := RX7) (T := TX7) (N := 10) hx hb hts hiX7 hown hK hP 0 rfl rfl 0 (Nat.le_of_ble_eq_true rfl) fl10 (fun _ h9 => h9) rfl dX7_appeal_1 ?_
  refine va_get (D := D) (ci := 5) (v := .int (n_J 1)) (C := RX6) (T := TX6) (N := 15) hx hb hts hiX6 hown hK hP 1 rfl rfl 10 (Nat.le_of_ble_eq_true rfl) fl102 (fun _ h9 => h9) rfl dX7_appeal_4 ?_
  refine lv_iconst (v := 1) hx hb dX7_appeal_7 hki_1 ?_
  refine lv_icmp_gt (tgt := 14) hx hb dX7_appeal_8 rfl (fun c_1 => ?_) (fun c_1 => ?_)
  · refine lv_aload_n hx hb dX7_appeal_14 rfl (lv_at hl 0 rfl) ?_
    refine va_get (D := D) (ci := 6) (v := .ref h_now) (C := RX7) (T := TX7) (N := 10) hx hb hts hiX7 hown hK hP 0 rfl rfl 0 (Nat.le_of_ble_eq_true rfl) fl10 (fun _ h9 => h9) rfl dX7_appeal_15 ?_
    refine lv_aload_n hx hb dX7_appeal_18 rfl (lv_at hl 0 rfl) ?_
    refine va_get (D := D) (ci := 6) (v := .ref h_now) (C := RX7) (T := TX7) (N := 10) hx hb hts hiX7 hown hK hP 0 rfl rfl 0 (Nat.le_of_ble_eq_true rfl) fl10 (fun _ h9 => h9) rfl dX7_appeal_19 ?_
    refine va_get (D := D) (ci := 5) (v := .int (n_J 1)) (C := RX6) (T := TX6) (N := 15) hx hb hts hiX6 hown hK hP 1 rfl rfl 10 (Nat.le_of_ble_eq_true rfl) fl102 (fun _ h9 => h9) rfl dX7_appeal_22 ?_
    refine hs_pi (va_runS (As := [.int (n_J 1)]) (rest := [.ref h_now]) ⟨hx, hb, hml, hown, hts⟩ (g_halfUp l D k _ (n_J 1)) (va_cwS 1 hts gX7_appeal_X7_halfUp rfl rfl rfl hq_X7_halfUp ⟨Nat.le_of_ble_eq_true rfl, Nat.le_of_ble_eq_true rfl⟩) (hs_preS hK hN (hs_subP (w := []) hP [] rfl) (hD.sub (ws' := []) [] rfl rfl)) rfl rfl hl.1 rfl (lv_room (Nat.le_of_ble_eq_true rfl)) dX7_appeal_25 ⟨Nat.le_of_ble_eq_true rfl, Nat.le_of_ble_eq_true rfl⟩) hP hD hS hA (fun r_2 u_4 H locs hw_3 hP hS => ?_)
    refine hs_topi (((n_J 1) + 1) / 2) hw_3 ?_
    refine va_put (D := D) (ci := 5) (v := .int (((n_J 1) + 1) / 2)) (ty := .int) (C := RX6) (T := TX6) (N := 15) hx hb hts hiX6 tyX6 tyX6_ok nmX6 hown hK hP hD hS 1 rfl rfl 10 (Nat.le_of_ble_eq_true rfl) fl102 (fun _ h9 => h9) rfl (by decide +kernel) rfl rfl (Nat.le_of_ble_eq_true rfl) dX7_appeal_28 (fun H locs hP hD hS => ?_)
    have hP : va_P D vwCl [oq6 h h_now h_trial h_images h_imageThere h_teller h_ranks h_court h_sheets h_lf h_lt, oq5 h_now (n_a 0) (n_a 1) (n_a 2) (n_a 3) (n_a 4) (n_a 5) (n_a 6) (nI (n_N 0)) (nI (n_N 1)) (n_J 0) (((n_J 1) + 1) / 2) (n_J 2) (nI (n_N 2)) (nI (n_N 3)) (nI (n_N 4))] H := hP
    have hD : va_D A [oq6 h h_now h_trial h_images h_imageThere h_teller h_ranks h_court h_sheets h_lf h_lt, oq5 h_now (n_a 0) (n_a 1) (n_a 2) (n_a 3) (n_a 4) (n_a 5) (n_a 6) (nI (n_N 0)) (nI (n_N 1)) (n_J 0) (((n_J 1) + 1) / 2) (n_J 2) (nI (n_N 2)) (nI (n_N 3)) (nI (n_N 4))] := hD
    refine lv_aload_n hx hb dX7_appeal_31 rfl (lv_at hl 0 rfl) ?_
    refine va_get (D := D) (ci := 6) (v := .ref h_now) (C := RX7) (T := TX7) (N := 10) hx hb hts hiX7 hown hK hP 0 rfl rfl 0 (Nat.le_of_ble_eq_true rfl) fl10 (fun _ h9 => h9) rfl dX7_appeal_32 ?_
    refine lv_dup hx hb dX7_appeal_35 rfl ?_
    refine va_get (D := D) (ci := 5) (v := .int (n_J 2)) (C := RX6) (T := TX6) (N := 15) hx hb hts hiX6 hown hK hP 1 rfl rfl 11 (Nat.le_of_ble_eq_true rfl) fl105 (fun _ h9 => h9) rfl dX7_appeal_36 ?_
    refine lv_iconst (v := 1) hx hb dX7_appeal_39 hki_1 ?_
    refine lv_iadd hx hb dX7_appeal_40 ?_
    refine va_put (D := D) (ci := 5) (v := .int ((n_J 2) + 1)) (ty := .int) (C := RX6) (T := TX6) (N := 15) hx hb hts hiX6 tyX6 tyX6_ok nmX6 hown hK hP hD hS 1 rfl rfl 11 (Nat.le_of_ble_eq_true rfl) fl105 (fun _ h9 => h9) rfl (by decide +kernel) rfl rfl (Nat.le_of_ble_eq_true rfl) dX7_appeal_41 (fun H locs hP hD hS => ?_)
    have hP : va_P D vwCl [_, oq5 h_now (n_a 0) (n_a 1) (n_a 2) (n_a 3) (n_a 4) (n_a 5) (n_a 6) (nI (n_N 0)) (nI (n_N 1)) (n_J 0) (((n_J 1) + 1) / 2) ((n_J 2) + 1) (nI (n_N 2)) (nI (n_N 3)) (nI (n_N 4))] H := hP
    have hD : va_D A [_, oq5 h_now (n_a 0) (n_a 1) (n_a 2) (n_a 3) (n_a 4) (n_a 5) (n_a 6) (nI (n_N 0)) (nI (n_N 1)) (n_J 0) (((n_J 1) + 1) / 2) ((n_J 2) + 1) (nI (n_N 2)) (nI (n_N 3)) (nI (n_N 4))] := hD
    refine lv_aload_n hx hb dX7_appeal_44 rfl (lv_at hl 0 rfl) ?_
    refine va_get (D := D) (ci := 6) (v := .ref h_now) (C := RX7) (T := TX7) (N := 10) hx hb hts hiX7 hown hK hP 0 rfl rfl 0 (Nat.le_of_ble_eq_true rfl) fl10 (fun _ h9 => h9) rfl dX7_appeal_45 ?_
    refine va_get (D := D) (ci := 5) (v := .int (((n_J 1) + 1) / 2)) (C := RX6) (T := TX6) (N := 15) hx hb hts hiX6 hown hK hP 1 rfl rfl 10 (Nat.le_of_ble_eq_true rfl) fl102 (fun _ h9 => h9) rfl dX7_appeal_48 ?_
    exact hs_iret hx hb hr hlocks hK hP hD hS (((n_J 1) + 1) / 2, (n_J 2) + 1) [0, 1] rfl (hs_upnd rfl) dX7_appeal_51 (Or.inr ⟨c_1, rfl, rfl⟩)
  · refine lv_bipush (v := (-2)) hx hb dX7_appeal_11 hkb_m2 ?_
    exact hs_iret hx hb hr hlocks hK hP hD hS (n_J 1, n_J 2) [0, 1] rfl (hs_upnd rfl) dX7_appeal_13 (Or.inl ⟨c_1, rfl, rfl⟩)

set_option maxHeartbeats 4000000 in
set_option maxRecDepth 100000 in
theorem gpf_see (l : Launch) (D : va_G) (k : Nat → ClassId) (sz : Nat) (h : Nat) (h_now : Nat) (h_trial : Nat) (h_images : Nat) (h_imageThere : Nat) (h_teller : Nat) (h_ranks : Nat) (h_court : Nat) (h_sheets : Nat) (h_lf : Int32) (h_lt : Int32) (n_a : Nat → Nat) (n_N : Nat → Nat) (n_J : Nat → Int32) (n_F : Nat → Nat → Int32) (i : Int32) (kk : Int32) (fo : Int32) (hN0 : thN n_N) (hF : thF n_N n_F) (h2 : 2 ≤ n_N 0) : MI l yX7_see wsX7_see ({ frames := 2, cells := 0, slots := 0, locals := 43 }) D k [.ref h, .int i, .int kk, .int fo] [oq6 h h_now h_trial h_images h_imageThere h_teller h_ranks h_court h_sheets h_lf h_lt, oqT h_now n_a n_N n_J, oqF0 k n_a n_F, oqF1 k n_a n_F, oqF2 k n_a n_F, oqF3 k n_a n_F, oqF4 k n_a n_F, oqF5 k n_a n_F, oqF6 k n_a n_F] sz (fun (r : Int32) (u : Nat × (Nat → Int32) × (Nat → Int32) × (Nat → Int32)) => cSn (n_N 1) (n_N 0) (n_N 4) (n_F 4) (n_F 5) (n_F 6) i kk fo r u) (fun (u : Nat × (Nat → Int32) × (Nat → Int32) × (Nat → Int32)) => [oq6 h h_now h_trial h_images h_imageThere h_teller h_ranks h_court h_sheets h_lf h_lt, oq5 h_now (n_a 0) (n_a 1) (n_a 2) (n_a 3) (n_a 4) (n_a 5) (n_a 6) (nI (n_N 0)) (nI (n_N 1)) (n_J 0) (n_J 1) (n_J 2) (nI (n_N 2)) (nI (n_N 3)) (nI (u.1)), oqF0 k n_a n_F, oqF1 k n_a n_F, oqF2 k n_a n_F, oqF3 k n_a n_F, oqI k (n_a 4) 6 (u.2.1), oqI k (n_a 5) 6 (u.2.2.1), oqI k (n_a 6) 6 (u.2.2.2)]) := by
  refine Met.ofW (cc := cX7_see) (maxL := 4) (ret := (some .int)) hpn_X7 rfl ?_
  intro p e s m args below meth c s₁ B hml hv
  obtain ⟨rfl, hsz, hP, hK, hD0, hN⟩ := hv
  have hx := B.exec
  have hb := B.bytes
  have hr := B.returns
  have hlocks := B.notSynchronized
  have hts := atoms_spec (ws := wsX7_see) B.pre
  have hown := findClass_of_methodNamed B.named
  have hown : s.vm.findClass RX7 = some m.cls := hown
  have hiX6 : ∀ w ∈ u_ws RX6 TX6 15, w ∈ wsX7_see := fun w9 hw9 => List.mem_cons_of_mem _ (igX6 w9 hw9)
  have hiX7 : ∀ w ∈ u_ws RX7 TX7 10, w ∈ wsX7_see := fun w9 hw9 => List.mem_cons_of_mem _ (igX7 w9 hw9)
  have fl10 := hts (.fieldLink RX7 10 "HalfScales" "now" "LHalfScales$Thing;") (List.mem_cons_of_mem _ (hs_inG 1 215 rfl rfl))
  have fl244 := hts (.fieldLink RX7 244 "HalfScales$Thing" "seenCount" "I") (List.mem_cons_of_mem _ (hs_inG 1 77 rfl rfl))
  have hNn := hN0
  obtain ⟨I0, I1, ⟨I2, I2b⟩, I3, I4⟩ := hN0
  subst hsz
  have hD := hD0.self (sz := s.heap.size)
  generalize hAe : va_A [oq6 h h_now h_trial h_images h_imageThere h_teller h_ranks h_court h_sheets h_lf h_lt, oqT h_now n_a n_N n_J, oqF0 k n_a n_F, oqF1 k n_a n_F, oqF2 k n_a n_F, oqF3 k n_a n_F, oqF4 k n_a n_F, oqF5 k n_a n_F, oqF6 k n_a n_F] s.heap.size = A at hD ⊢
  have hA : ∀ q : Nat, s.heap.size ≤ q → A q := fun q h => by rw [← hAe]; exact Or.inr h
  have hS : va_S A s.heap s.heap [] := va_S.rf
  have hl := lv_entry ([.ref h, .int i, .int kk, .int fo]) (n := 4) (Nat.le_of_ble_eq_true rfl)
  rw [lg_entry_eq]
  generalize (lg_sl ([.ref h, .int i, .int kk, .int fo]) ++ List.replicate (4 - (lg_sl ([.ref h, .int i, .int kk, .int fo])).length) Slot.unset).toArray = ls at hl ⊢
  have hl : lv_has ls 4 [(0, .ref h), (1, .int i), (2, .int kk), (3, .int fo)] := hl
  have hP : va_P D vwCl [oq6 h h_now h_trial h_images h_imageThere h_teller h_ranks h_court h_sheets h_lf h_lt, oqT h_now n_a n_N n_J, oqF0 k n_a n_F, oqF1 k n_a n_F, oqF2 k n_a n_F, oqF3 k n_a n_F, oqF4 k n_a n_F, oqF5 k n_a n_F, oqF6 k n_a n_F] s.heap := hP
  refine lv_aload_n hx hb dX7_see_0 rfl (lv_at hl 0 rfl) ?_
  refine va_get (D := D) (ci := 6) (v := .ref h_now) (C := RX7) (T := TX7) (N := 10) hx hb hts hiX7 hown hK hP 0 rfl rfl 0 (Nat.le_of_ble_eq_true rfl) fl10 (fun _ h9 => h9) rfl dX7_see_1 ?_
  refine lv_iload_n hx hb dX7_see_4 rfl (lv_at hl 1 rfl) ?_
  refine hs_ciM (va_runV (As := [.int i]) (rest := []) ⟨hx, hb, hml, hown, hts⟩ (g_isPerson l D k _ h_now n_a n_N n_J i (by first | assumption | exact ⟨by first | omega | (dsimp; omega), by first | omega | (dsimp; omega), ⟨by first | omega | (dsimp; omega), by first | omega | (dsimp; omega)⟩, by first | omega | (dsimp; omega), by first | omega | (dsimp; omega)⟩)) (cwV 1 hts gX7_see_X6_isPerson rfl rfl rfl ⟨rfl, hq_X6_isPerson⟩ ⟨Nat.le_of_ble_eq_true rfl, Nat.le_of_ble_eq_true rfl⟩) (hs_preV hK hN (hs_subP (w := [_]) hP [1] rfl) (hD.sub (ws' := [_]) [1] (hs_upnd rfl) rfl) (ci := 5) (q0 := 0) rfl rfl) rfl rfl hl.1 rfl (lv_room (Nat.le_of_ble_eq_true rfl)) dX7_see_5 ⟨Nat.le_of_ble_eq_true rfl, Nat.le_of_ble_eq_true rfl⟩) hP hD hS hA [true, false, true, true, true, true, true, true, true] [_, _, _, _, _, _, _, _] [_] rfl [0] rfl [0] (fun u_3 => [_]) (fun _ => rfl) (hs_upnd rfl) [true, false, true, true, true, true, true, true, true] (fun u_3 => [_, _, _, _, _, _, _, _, _]) (fun _ => rfl) (fun r_1 u_3 H locs hw_2 hP hD hS => ?_)
  refine hs_topi (hsb (hslt i (n_N 1))) hw_2 ?_
  refine lv_if_eq (tgt := 31) hx hb dX7_see_8 rfl (fun c_4 => ?_) (fun c_4 => ?_)
  · refine lv_iconst (v := (-1)) hx hb dX7_see_31 hki_m1 ?_
    exact hs_iret hx hb hr hlocks hK hP hD hS (n_N 4, n_F 4, n_F 5, n_F 6) [0, 1, 2, 3, 4, 5, 6, 7, 8] rfl (hs_upnd rfl) dX7_see_32 (Or.inl ⟨by rw [hs_n0 c_4]; rfl, rfl, rfl⟩)
  · obtain ⟨j_5, hj_5, rfl⟩ := hslt_ex (hs_nb c_4)
    refine lv_aload_n hx hb dX7_see_11 rfl (lv_at hl 0 rfl) ?_
    refine va_get (D := D) (ci := 6) (v := .ref h_now) (C := RX7) (T := TX7) (N := 10) hx hb hts hiX7 hown hK hP 0 rfl rfl 0 (Nat.le_of_ble_eq_true rfl) fl10 (fun _ h9 => h9) rfl dX7_see_12 ?_
    refine lv_iload_n hx hb dX7_see_15 rfl (lv_at hl 2 rfl) ?_
    refine hs_ciM (va_runV (As := [.int kk]) (rest := []) ⟨hx, hb, hml, hown, hts⟩ (g_isCut l D k _ h_now n_a n_N n_J kk (by first | assumption | exact ⟨by first | omega | (dsimp; omega), by first | omega | (dsimp; omega), ⟨by first | omega | (dsimp; omega), by first | omega | (dsimp; omega)⟩, by first | omega | (dsimp; omega), by first | omega | (dsimp; omega)⟩)) (cwV 1 hts gX7_see_X6_isCut rfl rfl rfl ⟨rfl, hq_X6_isCut⟩ ⟨Nat.le_of_ble_eq_true rfl, Nat.le_of_ble_eq_true rfl⟩) (hs_preV hK hN (hs_subP (w := [_]) hP [1] rfl) (hD.sub (ws' := [_]) [1] (hs_upnd rfl) rfl) (ci := 5) (q0 := 0) rfl rfl) rfl rfl hl.1 rfl (lv_room (Nat.le_of_ble_eq_true rfl)) dX7_see_16 ⟨Nat.le_of_ble_eq_true rfl, Nat.le_of_ble_eq_true rfl⟩) hP hD hS hA [true, false, true, true, true, true, true, true, true] [_, _, _, _, _, _, _, _] [_] rfl [0] rfl [0] (fun u_8 => [_]) (fun _ => rfl) (hs_upnd rfl) [true, false, true, true, true, true, true, true, true] (fun u_8 => [_, _, _, _, _, _, _, _, _]) (fun _ => rfl) (fun r_6 u_8 H locs hw_7 hP hD hS => ?_)
    refine hs_topi (hsb (hslt1 kk (n_N 0))) hw_7 ?_
    refine lv_if_eq (tgt := 31) hx hb dX7_see_19 rfl (fun c_9 => ?_) (fun c_9 => ?_)
    · refine lv_iconst (v := (-1)) hx hb dX7_see_31 hki_m1 ?_
      exact hs_iret hx hb hr hlocks hK hP hD hS (n_N 4, n_F 4, n_F 5, n_F 6) [0, 1, 2, 3, 4, 5, 6, 7, 8] rfl (hs_upnd rfl) dX7_see_32 (Or.inl ⟨by rw [hs_n0 c_9, Bool.and_false]; rfl, rfl, rfl⟩)
    · refine lv_iload_n hx hb dX7_see_22 rfl (lv_at hl 3 rfl) ?_
      refine lv_iconst (v := 0) hx hb dX7_see_23 hki_0 ?_
      refine lv_iconst (v := 2) hx hb dX7_see_24 hki_2 ?_
      refine hs_pi (va_runS (As := [.int fo, .int 0, .int 2]) (rest := []) ⟨hx, hb, hml, hown, hts⟩ (g_within l D k _ fo 0 2) (va_cwS 3 hts gX7_see_X7_within rfl rfl rfl hq_X7_within ⟨Nat.le_of_ble_eq_true rfl, Nat.le_of_ble_eq_true rfl⟩) (hs_preS hK hN (hs_subP (w := []) hP [] rfl) (hD.sub (ws' := []) [] rfl rfl)) rfl rfl hl.1 rfl (lv_room (Nat.le_of_ble_eq_true rfl)) dX7_see_25 ⟨Nat.le_of_ble_eq_true rfl, Nat.le_of_ble_eq_true rfl⟩) hP hD hS hA (fun r_10 u_12 H locs hw_11 hP hS => ?_)
      refine hs_topi (hsb (hsin fo 0 2)) hw_11 ?_
      refine lv_if_ne (tgt := 33) hx hb dX7_see_28 rfl (fun c_13 => ?_) (fun c_13 => ?_)
      · refine lv_aload_n hx hb dX7_see_33 rfl (lv_at hl 0 rfl) ?_
        refine va_get (D := D) (ci := 6) (v := .ref h_now) (C := RX7) (T := TX7) (N := 10) hx hb hts hiX7 hown hK hP 0 rfl rfl 0 (Nat.le_of_ble_eq_true rfl) fl10 (fun _ h9 => h9) rfl dX7_see_34 ?_
        refine va_get (D := D) (ci := 5) (v := .int (nI (n_N 4))) (C := RX6) (T := TX6) (N := 15) hx hb hts hiX6 hown hK hP 1 rfl rfl 14 (Nat.le_of_ble_eq_true rfl) fl244 (fun _ h9 => h9) rfl dX7_see_37 ?_
        refine lv_bipush (v := 6) hx hb dX7_see_40 hkb_6 ?_
        refine lv_icmp_lt (tgt := 48) hx hb dX7_see_42 rfl (fun c_14 => ?_) (fun c_14 => ?_)
        · have nc_14 : (n_N 4) < 6 := (nI_ltI (a := (n_N 4)) (b := 6) (by omega) (by omega)).mp c_14
          refine lv_aload_n hx hb dX7_see_48 rfl (lv_at hl 0 rfl) ?_
          refine va_get (D := D) (ci := 6) (v := .ref h_now) (C := RX7) (T := TX7) (N := 10) hx hb hts hiX7 hown hK hP 0 rfl rfl 0 (Nat.le_of_ble_eq_true rfl) fl10 (fun _ h9 => h9) rfl dX7_see_49 ?_
          refine lv_iload_n hx hb dX7_see_52 rfl (lv_at hl 1 rfl) ?_
          refine lv_iload_n hx hb dX7_see_53 rfl (lv_at hl 2 rfl) ?_
          refine lv_iload_n hx hb dX7_see_54 rfl (lv_at hl 3 rfl) ?_
          refine hs_cvM (va_runV (As := [.int (nI j_5), .int kk, .int fo]) (rest := []) ⟨hx, hb, hml, hown, hts⟩ (g_addSeen l D k _ h_now n_a n_N n_J n_F (nI j_5) kk fo (by omega)) (cwV 3 hts gX7_see_X6_addSeen rfl rfl rfl ⟨rfl, hq_X6_addSeen⟩ ⟨Nat.le_of_ble_eq_true rfl, Nat.le_of_ble_eq_true rfl⟩) (hs_preV hK hN (hs_subP (w := [_, _, _, _, _, _, _, _]) hP [1, 2, 3, 4, 5, 6, 7, 8] rfl) (hD.sub (ws' := [_, _, _, _, _, _, _, _]) [1, 2, 3, 4, 5, 6, 7, 8] (hs_upnd rfl) rfl) (ci := 5) (q0 := 0) rfl rfl) rfl rfl hl.1 rfl (lv_room (Nat.le_of_ble_eq_true rfl)) dX7_see_55 ⟨Nat.le_of_ble_eq_true rfl, Nat.le_of_ble_eq_true rfl⟩) hP hD hS hA [true, false, false, false, false, false, false, false, false] [_] [_, _, _, _, _, _, _, _] rfl [0, 1, 2, 3, 4, 5, 6, 7] rfl [0, 1, 2, 3, 4, 5, 6, 7] (fun u_17 => [_, _, _, _, _, _, _, _]) (fun _ => rfl) (hs_upnd rfl) [true, false, false, false, false, false, false, false, false] (fun u_17 => [_, _, _, _, _, _, _, _, _]) (fun _ => rfl) (fun u_17 H locs hw_16 hP hD hS => ?_)
          refine lv_aload_n hx hb dX7_see_58 rfl (lv_at hl 0 rfl) ?_
          refine va_get (D := D) (ci := 6) (v := .ref h_now) (C := RX7) (T := TX7) (N := 10) hx hb hts hiX7 hown hK hP 0 rfl rfl 0 (Nat.le_of_ble_eq_true rfl) fl10 (fun _ h9 => h9) rfl dX7_see_59 ?_
          refine va_get (D := D) (ci := 5) (v := .int (nI ((n_N 4) + 1))) (C := RX6) (T := TX6) (N := 15) hx hb hts hiX6 hown hK hP 1 rfl rfl 14 (Nat.le_of_ble_eq_true rfl) fl244 (fun _ h9 => h9) rfl dX7_see_62 ?_
          exact hs_iret hx hb hr hlocks hK hP hD hS ((n_N 4) + 1, upd (n_F 4) ((nI (n_N 4)).toNatClampNeg) (nI j_5), upd (n_F 5) ((nI (n_N 4)).toNatClampNeg) kk, upd (n_F 6) ((nI (n_N 4)).toNatClampNeg) fo) [0, 1, 2, 3, 4, 5, 6, 7, 8] rfl (hs_upnd rfl) dX7_see_65 (Or.inr (Or.inr ⟨by rw [hs_nb c_4, hs_nb c_9, hs_nb c_13]; rfl, by omega, rfl, by rw [nI_clamp (by omega)]⟩))
        · have nc_14 : ¬ (n_N 4) < 6 := fun hq9 => c_14 ((nI_ltI (a := (n_N 4)) (b := 6) (by omega) (by omega)).mpr hq9)
          refine lv_bipush (v := (-3)) hx hb dX7_see_45 hkb_m3 ?_
          exact hs_iret hx hb hr hlocks hK hP hD hS (n_N 4, n_F 4, n_F 5, n_F 6) [0, 1, 2, 3, 4, 5, 6, 7, 8] rfl (hs_upnd rfl) dX7_see_47 (Or.inr (Or.inl ⟨by rw [hs_nb c_4, hs_nb c_9, hs_nb c_13]; rfl, by omega, rfl, rfl⟩))
      · refine lv_iconst (v := (-1)) hx hb dX7_see_31 hki_m1 ?_
        exact hs_iret hx hb hr hlocks hK hP hD hS (n_N 4, n_F 4, n_F 5, n_F 6) [0, 1, 2, 3, 4, 5, 6, 7, 8] rfl (hs_upnd rfl) dX7_see_32 (Or.inl ⟨by rw [hs_n0 c_13, Bool.and_false], rfl, rfl⟩)

set_option maxHeartbeats 4000000 in
set_option maxRecDepth 100000 in
theorem gpf_forget (l : Launch) (D : va_G) (k : Nat → ClassId) (sz : Nat) (h : Nat) (h_now : Nat) (h_trial : Nat) (h_images : Nat) (h_imageThere : Nat) (h_teller : Nat) (h_ranks : Nat) (h_court : Nat) (h_sheets : Nat) (h_lf : Int32) (h_lt : Int32) (n_a : Nat → Nat) (n_N : Nat → Nat) (n_J : Nat → Int32) (n : Int32) (hN0 : thN n_N) : MI l yX7_forget wsX7_forget ({ frames := 1, cells := 0, slots := 0, locals := 22 }) D k [.ref h, .int n] [oq6 h h_now h_trial h_images h_imageThere h_teller h_ranks h_court h_sheets h_lf h_lt, oqT h_now n_a n_N n_J] sz (fun (r : Int32) (u : Nat) => cFo (n_N 4) n r u) (fun (u : Nat) => [oq6 h h_now h_trial h_images h_imageThere h_teller h_ranks h_court h_sheets h_lf h_lt, oq5 h_now (n_a 0) (n_a 1) (n_a 2) (n_a 3) (n_a 4) (n_a 5) (n_a 6) (nI (n_N 0)) (nI (n_N 1)) (n_J 0) (n_J 1) (n_J 2) (nI (n_N 2)) (nI (n_N 3)) (nI u)]) := by
  refine Met.ofW (cc := cX7_forget) (maxL := 3) (ret := (some .int)) hpn_X7 rfl ?_
  intro p e s m args below meth c s₁ B hml hv
  obtain ⟨rfl, hsz, hP, hK, hD0, hN⟩ := hv
  have hx := B.exec
  have hb := B.bytes
  have hr := B.returns
  have hlocks := B.notSynchronized
  have hts := atoms_spec (ws := wsX7_forget) B.pre
  have hown := findClass_of_methodNamed B.named
  have hown : s.vm.findClass RX7 = some m.cls := hown
  have hiX6 : ∀ w ∈ u_ws RX6 TX6 15, w ∈ wsX7_forget := fun w9 hw9 => List.mem_cons_of_mem _ (igX6 w9 hw9)
  have hiX7 : ∀ w ∈ u_ws RX7 TX7 10, w ∈ wsX7_forget := fun w9 hw9 => List.mem_cons_of_mem _ (igX7 w9 hw9)
  have fl10 := hts (.fieldLink RX7 10 "HalfScales" "now" "LHalfScales$Thing;") (List.mem_cons_of_mem _ (hs_inG 1 215 rfl rfl))
  have fl244 := hts (.fieldLink RX7 244 "HalfScales$Thing" "seenCount" "I") (List.mem_cons_of_mem _ (hs_inG 1 77 rfl rfl))
  have hNn := hN0
  obtain ⟨I0, I1, ⟨I2, I2b⟩, I3, I4⟩ := hN0
  subst hsz
  have hD := hD0.self (sz := s.heap.size)
  generalize hAe : va_A [oq6 h h_now h_trial h_images h_imageThere h_teller h_ranks h_court h_sheets h_lf h_lt, oqT h_now n_a n_N n_J] s.heap.size = A at hD ⊢
  have hA : ∀ q : Nat, s.heap.size ≤ q → A q := fun q h => by rw [← hAe]; exact Or.inr h
  have hS : va_S A s.heap s.heap [] := va_S.rf
  have hl := lv_entry ([.ref h, .int n]) (n := 3) (Nat.le_of_ble_eq_true rfl)
  rw [lg_entry_eq]
  generalize (lg_sl ([.ref h, .int n]) ++ List.replicate (3 - (lg_sl ([.ref h, .int n])).length) Slot.unset).toArray = ls at hl ⊢
  have hl : lv_has ls 3 [(0, .ref h), (1, .int n)] := hl
  have hP : va_P D vwCl [oq6 h h_now h_trial h_images h_imageThere h_teller h_ranks h_court h_sheets h_lf h_lt, oqT h_now n_a n_N n_J] s.heap := hP
  refine lv_iload_n hx hb dX7_forget_0 rfl (lv_at hl 1 rfl) ?_
  refine lv_iconst (v := 0) hx hb dX7_forget_1 hki_0 ?_
  refine lv_aload_n hx hb dX7_forget_2 rfl (lv_at hl 0 rfl) ?_
  refine va_get (D := D) (ci := 6) (v := .ref h_now) (C := RX7) (T := TX7) (N := 10) hx hb hts hiX7 hown hK hP 0 rfl rfl 0 (Nat.le_of_ble_eq_true rfl) fl10 (fun _ h9 => h9) rfl dX7_forget_3 ?_
  refine va_get (D := D) (ci := 5) (v := .int (nI (n_N 4))) (C := RX6) (T := TX6) (N := 15) hx hb hts hiX6 hown hK hP 1 rfl rfl 14 (Nat.le_of_ble_eq_true rfl) fl244 (fun _ h9 => h9) rfl dX7_forget_6 ?_
  refine hs_pi (va_runS (As := [.int n, .int 0, .int (nI (n_N 4))]) (rest := []) ⟨hx, hb, hml, hown, hts⟩ (g_within l D k _ n 0 (nI (n_N 4))) (va_cwS 3 hts gX7_forget_X7_within rfl rfl rfl hq_X7_within ⟨Nat.le_of_ble_eq_true rfl, Nat.le_of_ble_eq_true rfl⟩) (hs_preS hK hN (hs_subP (w := []) hP [] rfl) (hD.sub (ws' := []) [] rfl rfl)) rfl rfl hl.1 rfl (lv_room (Nat.le_of_ble_eq_true rfl)) dX7_forget_9 ⟨Nat.le_of_ble_eq_true rfl, Nat.le_of_ble_eq_true rfl⟩) hP hD hS hA (fun r_1 u_3 H locs hw_2 hP hS => ?_)
  refine hs_topi (hsb (hsin n 0 (nI (n_N 4)))) hw_2 ?_
  refine lv_if_ne (tgt := 17) hx hb dX7_forget_12 rfl (fun c_4 => ?_) (fun c_4 => ?_)
  · obtain ⟨j_5, hj_5, hj_5b, rfl⟩ := hs_rng (lo := 0) (hi := (n_N 4)) (by omega) (by omega) (hs_nb c_4)
    refine lv_aload_n hx hb dX7_forget_17 rfl (lv_at hl 0 rfl) ?_
    refine va_get (D := D) (ci := 6) (v := .ref h_now) (C := RX7) (T := TX7) (N := 10) hx hb hts hiX7 hown hK hP 0 rfl rfl 0 (Nat.le_of_ble_eq_true rfl) fl10 (fun _ h9 => h9) rfl dX7_forget_18 ?_
    refine va_get (D := D) (ci := 5) (v := .int (nI (n_N 4))) (C := RX6) (T := TX6) (N := 15) hx hb hts hiX6 hown hK hP 1 rfl rfl 14 (Nat.le_of_ble_eq_true rfl) fl244 (fun _ h9 => h9) rfl dX7_forget_21 ?_
    refine lv_istore_n (lv' := [(2, .int (nI (n_N 4))), (0, .ref h), (1, .int (nI j_5))]) hx hb dX7_forget_24 rfl hl (Nat.le_of_ble_eq_true rfl) rfl (fun ls hl => ?_)
    refine lv_aload_n hx hb dX7_forget_25 rfl (lv_at hl 1 rfl) ?_
    refine va_get (D := D) (ci := 6) (v := .ref h_now) (C := RX7) (T := TX7) (N := 10) hx hb hts hiX7 hown hK hP 0 rfl rfl 0 (Nat.le_of_ble_eq_true rfl) fl10 (fun _ h9 => h9) rfl dX7_forget_26 ?_
    refine lv_iload_n hx hb dX7_forget_29 rfl (lv_at hl 2 rfl) ?_
    refine va_put (D := D) (ci := 5) (v := .int (nI j_5)) (ty := .int) (C := RX6) (T := TX6) (N := 15) hx hb hts hiX6 tyX6 tyX6_ok nmX6 hown hK hP hD hS 1 rfl rfl 14 (Nat.le_of_ble_eq_true rfl) fl244 (fun _ h9 => h9) rfl (by decide +kernel) rfl rfl (Nat.le_of_ble_eq_true rfl) dX7_forget_30 (fun H locs hP hD hS => ?_)
    have hP : va_P D vwCl [oq6 h h_now h_trial h_images h_imageThere h_teller h_ranks h_court h_sheets h_lf h_lt, oq5 h_now (n_a 0) (n_a 1) (n_a 2) (n_a 3) (n_a 4) (n_a 5) (n_a 6) (nI (n_N 0)) (nI (n_N 1)) (n_J 0) (n_J 1) (n_J 2) (nI (n_N 2)) (nI (n_N 3)) (nI j_5)] H := hP
    have hD : va_D A [oq6 h h_now h_trial h_images h_imageThere h_teller h_ranks h_court h_sheets h_lf h_lt, oq5 h_now (n_a 0) (n_a 1) (n_a 2) (n_a 3) (n_a 4) (n_a 5) (n_a 6) (nI (n_N 0)) (nI (n_N 1)) (n_J 0) (n_J 1) (n_J 2) (nI (n_N 2)) (nI (n_N 3)) (nI j_5)] := hD
    refine lv_iload_n hx hb dX7_forget_33 rfl (lv_at hl 0 rfl) ?_
    exact hs_iret hx hb hr hlocks hK hP hD hS (j_5) [0, 1] rfl (hs_upnd rfl) dX7_forget_34 (Or.inr ⟨hs_nb c_4, rfl, rfl, by omega⟩)
  · refine lv_iconst (v := (-1)) hx hb dX7_forget_15 hki_m1 ?_
    exact hs_iret hx hb hr hlocks hK hP hD hS (n_N 4) [0, 1] rfl (hs_upnd rfl) dX7_forget_16 (Or.inl ⟨hs_n0 c_4, rfl, rfl⟩)

set_option maxHeartbeats 4000000 in
set_option maxRecDepth 100000 in
theorem gpf_lighter (l : Launch) (D : va_G) (k : Nat → ClassId) (sz : Nat) (h : Nat) (h_now : Nat) (h_trial : Nat) (h_images : Nat) (h_imageThere : Nat) (h_teller : Nat) (h_ranks : Nat) (h_court : Nat) (h_sheets : Nat) (h_lf : Int32) (h_lt : Int32) (n_a : Nat → Nat) (n_N : Nat → Nat) (n_J : Nat → Int32) (n_F : Nat → Nat → Int32) (q_ahead : Nat) (q_ways : Nat) (q_z : Nat) (af : Nat → Int32) (wf : Nat → Int32) (a : Int32) (b : Int32) (hN0 : thN n_N) (hF : thF n_N n_F) (h2 : 2 ≤ n_N 0) (hB : thB n_N n_J n_F) : MI l yX7_lighter wsX7_lighter ({ frames := 3, cells := 0, slots := 0, locals := 71 }) D k [.ref h, .int a, .int b] [oq6 h h_now h_trial h_images h_imageThere h_teller h_ranks h_court h_sheets h_lf h_lt, oqT h_now n_a n_N n_J, oqF0 k n_a n_F, oqF1 k n_a n_F, oqF2 k n_a n_F, oqF3 k n_a n_F, oqF4 k n_a n_F, oqF5 k n_a n_F, oqF6 k n_a n_F, oq1 h_ranks q_ahead q_ways (nI q_z), oqI k q_ahead 5 (af), oqI k q_ways 32 (wf)] sz (fun (r : Int32) (u : Nat × (Nat → Int32) × (Nat → Int32) × Nat × (Nat → Int32) × (Nat → Int32)) => cLi (n_N 2) (n_N 3) n_F a b r (u.1, u.2.1, u.2.2.1) ∧ (u.2.2.2.1 = n_N 2 ∨ u.2.2.2.1 = q_z)) (fun (u : Nat × (Nat → Int32) × (Nat → Int32) × Nat × (Nat → Int32) × (Nat → Int32)) => [oq6 h h_now h_trial h_images h_imageThere h_teller h_ranks h_court h_sheets h_lf h_lt, oq5 h_now (n_a 0) (n_a 1) (n_a 2) (n_a 3) (n_a 4) (n_a 5) (n_a 6) (nI (n_N 0)) (nI (n_N 1)) (n_J 0) (n_J 1) (n_J 2) (nI (n_N 2)) (nI (u.1)) (nI (n_N 4)), oqF0 k n_a n_F, oqF1 k n_a n_F, oqI k (n_a 2) 8 (u.2.1), oqI k (n_a 3) 8 (u.2.2.1), oqF4 k n_a n_F, oqF5 k n_a n_F, oqF6 k n_a n_F, oq1 h_ranks q_ahead q_ways (nI (u.2.2.2.1)), oqI k q_ahead 5 (u.2.2.2.2.1), oqI k q_ways 32 (u.2.2.2.2.2)]) := by
  refine Met.ofW (cc := cX7_lighter) (maxL := 3) (ret := (some .int)) hpn_X7 rfl ?_
  intro p e s m args below meth c s₁ B hml hv
  obtain ⟨rfl, hsz, hP, hK, hD0, hN⟩ := hv
  have hx := B.exec
  have hb := B.bytes
  have hr := B.returns
  have hlocks := B.notSynchronized
  have hts := atoms_spec (ws := wsX7_lighter) B.pre
  have hown := findClass_of_methodNamed B.named
  have hown : s.vm.findClass RX7 = some m.cls := hown
  have hiX6 : ∀ w ∈ u_ws RX6 TX6 15, w ∈ wsX7_lighter := fun w9 hw9 => List.mem_cons_of_mem _ (igX6 w9 hw9)
  have hiX7 : ∀ w ∈ u_ws RX7 TX7 10, w ∈ wsX7_lighter := fun w9 hw9 => List.mem_cons_of_mem _ (igX7 w9 hw9)
  have fl10 := hts (.fieldLink RX7 10 "HalfScales" "now" "LHalfScales$Thing;") (List.mem_cons_of_mem _ (hs_inG 1 215 rfl rfl))
  have fl111 := hts (.fieldLink RX7 111 "HalfScales$Thing" "pairCount" "I") (List.mem_cons_of_mem _ (hs_inG 1 75 rfl rfl))
  have fl37 := hts (.fieldLink RX7 37 "HalfScales" "ranks" "LHalfScales$Ranks;") (List.mem_cons_of_mem _ (hs_inG 1 220 rfl rfl))
  have hNn := hN0
  obtain ⟨I0, I1, ⟨I2, I2b⟩, I3, I4⟩ := hN0
  subst hsz
  have hD := hD0.self (sz := s.heap.size)
  generalize hAe : va_A [oq6 h h_now h_trial h_images h_imageThere h_teller h_ranks h_court h_sheets h_lf h_lt, oqT h_now n_a n_N n_J, oqF0 k n_a n_F, oqF1 k n_a n_F, oqF2 k n_a n_F, oqF3 k n_a n_F, oqF4 k n_a n_F, oqF5 k n_a n_F, oqF6 k n_a n_F, oq1 h_ranks q_ahead q_ways (nI q_z), oqI k q_ahead 5 (af), oqI k q_ways 32 (wf)] s.heap.size = A at hD ⊢
  have hA : ∀ q : Nat, s.heap.size ≤ q → A q := fun q h => by rw [← hAe]; exact Or.inr h
  have hS : va_S A s.heap s.heap [] := va_S.rf
  have hl := lv_entry ([.ref h, .int a, .int b]) (n := 3) (Nat.le_of_ble_eq_true rfl)
  rw [lg_entry_eq]
  generalize (lg_sl ([.ref h, .int a, .int b]) ++ List.replicate (3 - (lg_sl ([.ref h, .int a, .int b])).length) Slot.unset).toArray = ls at hl ⊢
  have hl : lv_has ls 3 [(0, .ref h), (1, .int a), (2, .int b)] := hl
  have hP : va_P D vwCl [oq6 h h_now h_trial h_images h_imageThere h_teller h_ranks h_court h_sheets h_lf h_lt, oqT h_now n_a n_N n_J, oqF0 k n_a n_F, oqF1 k n_a n_F, oqF2 k n_a n_F, oqF3 k n_a n_F, oqF4 k n_a n_F, oqF5 k n_a n_F, oqF6 k n_a n_F, oq1 h_ranks q_ahead q_ways (nI q_z), oqI k q_ahead 5 (af), oqI k q_ways 32 (wf)] s.heap := hP
  refine lv_aload_n hx hb dX7_lighter_0 rfl (lv_at hl 0 rfl) ?_
  refine va_get (D := D) (ci := 6) (v := .ref h_now) (C := RX7) (T := TX7) (N := 10) hx hb hts hiX7 hown hK hP 0 rfl rfl 0 (Nat.le_of_ble_eq_true rfl) fl10 (fun _ h9 => h9) rfl dX7_lighter_1 ?_
  refine lv_iload_n hx hb dX7_lighter_4 rfl (lv_at hl 1 rfl) ?_
  refine hs_ciM (va_runV (As := [.int a]) (rest := []) ⟨hx, hb, hml, hown, hts⟩ (g_isHalf l D k _ h_now n_a n_N n_J a (by first | assumption | exact ⟨by first | omega | (dsimp; omega), by first | omega | (dsimp; omega), ⟨by first | omega | (dsimp; omega), by first | omega | (dsimp; omega)⟩, by first | omega | (dsimp; omega), by first | omega | (dsimp; omega)⟩)) (cwV 1 hts gX7_lighter_X6_isHalf rfl rfl rfl ⟨rfl, hq_X6_isHalf⟩ ⟨Nat.le_of_ble_eq_true rfl, Nat.le_of_ble_eq_true rfl⟩) (hs_preV hK hN (hs_subP (w := [_]) hP [1] rfl) (hD.sub (ws' := [_]) [1] (hs_upnd rfl) rfl) (ci := 5) (q0 := 0) rfl rfl) rfl rfl hl.1 rfl (lv_room (Nat.le_of_ble_eq_true rfl)) dX7_lighter_5 ⟨Nat.le_of_ble_eq_true rfl, Nat.le_of_ble_eq_true rfl⟩) hP hD hS hA [true, false, true, true, true, true, true, true, true, true, true, true] [_, _, _, _, _, _, _, _, _, _, _] [_] rfl [0] rfl [0] (fun u_3 => [_]) (fun _ => rfl) (hs_upnd rfl) [true, false, true, true, true, true, true, true, true, true, true, true] (fun u_3 => [_, _, _, _, _, _, _, _, _, _, _, _]) (fun _ => rfl) (fun r_1 u_3 H locs hw_2 hP hD hS => ?_)
  refine hs_topi (hsb (hslt a (n_N 2))) hw_2 ?_
  refine lv_if_eq (tgt := 27) hx hb dX7_lighter_8 rfl (fun c_4 => ?_) (fun c_4 => ?_)
  · refine lv_iconst (v := (-1)) hx hb dX7_lighter_27 hki_m1 ?_
    exact hs_iret hx hb hr hlocks hK hP hD hS (n_N 3, n_F 2, n_F 3, q_z, af, wf) [0, 1, 2, 3, 4, 5, 6, 7, 8, 9, 10, 11] rfl (hs_upnd rfl) dX7_lighter_28 (⟨Or.inl ⟨fun z9 => hslt_no (by omega) (hs_n0 c_4) (by obtain ⟨x9, y9, hx9, hy9, hn9, ex9, ey9⟩ := z9; exact ⟨x9, hx9, ex9⟩), rfl, rfl⟩, by (try dsimp only); first | exact Or.inl rfl | exact Or.inr rfl⟩)
  · obtain ⟨j_5, hj_5, rfl⟩ := hslt_ex (hs_nb c_4)
    refine lv_aload_n hx hb dX7_lighter_11 rfl (lv_at hl 0 rfl) ?_
    refine va_get (D := D) (ci := 6) (v := .ref h_now) (C := RX7) (T := TX7) (N := 10) hx hb hts hiX7 hown hK hP 0 rfl rfl 0 (Nat.le_of_ble_eq_true rfl) fl10 (fun _ h9 => h9) rfl dX7_lighter_12 ?_
    refine lv_iload_n hx hb dX7_lighter_15 rfl (lv_at hl 2 rfl) ?_
    refine hs_ciM (va_runV (As := [.int b]) (rest := []) ⟨hx, hb, hml, hown, hts⟩ (g_isHalf l D k _ h_now n_a n_N n_J b (by first | assumption | exact ⟨by first | omega | (dsimp; omega), by first | omega | (dsimp; omega), ⟨by first | omega | (dsimp; omega), by first | omega | (dsimp; omega)⟩, by first | omega | (dsimp; omega), by first | omega | (dsimp; omega)⟩)) (cwV 1 hts gX7_lighter_X6_isHalf rfl rfl rfl ⟨rfl, hq_X6_isHalf⟩ ⟨Nat.le_of_ble_eq_true rfl, Nat.le_of_ble_eq_true rfl⟩) (hs_preV hK hN (hs_subP (w := [_]) hP [1] rfl) (hD.sub (ws' := [_]) [1] (hs_upnd rfl) rfl) (ci := 5) (q0 := 0) rfl rfl) rfl rfl hl.1 rfl (lv_room (Nat.le_of_ble_eq_true rfl)) dX7_lighter_16 ⟨Nat.le_of_ble_eq_true rfl, Nat.le_of_ble_eq_true rfl⟩) hP hD hS hA [true, false, true, true, true, true, true, true, true, true, true, true] [_, _, _, _, _, _, _, _, _, _, _] [_] rfl [0] rfl [0] (fun u_8 => [_]) (fun _ => rfl) (hs_upnd rfl) [true, false, true, true, true, true, true, true, true, true, true, true] (fun u_8 => [_, _, _, _, _, _, _, _, _, _, _, _]) (fun _ => rfl) (fun r_6 u_8 H locs hw_7 hP hD hS => ?_)
    refine hs_topi (hsb (hslt b (n_N 2))) hw_7 ?_
    refine lv_if_eq (tgt := 27) hx hb dX7_lighter_19 rfl (fun c_9 => ?_) (fun c_9 => ?_)
    · refine lv_iconst (v := (-1)) hx hb dX7_lighter_27 hki_m1 ?_
      exact hs_iret hx hb hr hlocks hK hP hD hS (n_N 3, n_F 2, n_F 3, q_z, af, wf) [0, 1, 2, 3, 4, 5, 6, 7, 8, 9, 10, 11] rfl (hs_upnd rfl) dX7_lighter_28 (⟨Or.inl ⟨fun z9 => hslt_no (by omega) (hs_n0 c_9) (by obtain ⟨x9, y9, hx9, hy9, hn9, ex9, ey9⟩ := z9; exact ⟨y9, hy9, ey9⟩), rfl, rfl⟩, by (try dsimp only); first | exact Or.inl rfl | exact Or.inr rfl⟩)
    · obtain ⟨j_10, hj_10, rfl⟩ := hslt_ex (hs_nb c_9)
      refine lv_iload_n hx hb dX7_lighter_22 rfl (lv_at hl 1 rfl) ?_
      refine lv_iload_n hx hb dX7_lighter_23 rfl (lv_at hl 2 rfl) ?_
      refine lv_icmp_ne (tgt := 29) hx hb dX7_lighter_24 rfl (fun c_11 => ?_) (fun c_11 => ?_)
      · have nc_11 : ¬ j_5 = j_10 := fun hq9 => c_11 ((nI_eq (a := j_5) (b := j_10) (by omega) (by omega)).mpr hq9)
        refine lv_aload_n hx hb dX7_lighter_29 rfl (lv_at hl 0 rfl) ?_
        refine va_get (D := D) (ci := 6) (v := .ref h_now) (C := RX7) (T := TX7) (N := 10) hx hb hts hiX7 hown hK hP 0 rfl rfl 0 (Nat.le_of_ble_eq_true rfl) fl10 (fun _ h9 => h9) rfl dX7_lighter_30 ?_
        refine va_get (D := D) (ci := 5) (v := .int (nI (n_N 3))) (C := RX6) (T := TX6) (N := 15) hx hb hts hiX6 hown hK hP 1 rfl rfl 13 (Nat.le_of_ble_eq_true rfl) fl111 (fun _ h9 => h9) rfl dX7_lighter_33 ?_
        refine lv_bipush (v := 8) hx hb dX7_lighter_36 hkb_8 ?_
        refine lv_icmp_lt (tgt := 44) hx hb dX7_lighter_38 rfl (fun c_12 => ?_) (fun c_12 => ?_)
        · have nc_12 : (n_N 3) < 8 := (nI_ltI (a := (n_N 3)) (b := 8) (by omega) (by omega)).mp c_12
          refine lv_aload_n hx hb dX7_lighter_44 rfl (lv_at hl 0 rfl) ?_
          refine va_get (D := D) (ci := 6) (v := .ref h_ranks) (C := RX7) (T := TX7) (N := 10) hx hb hts hiX7 hown hK hP 0 rfl rfl 5 (Nat.le_of_ble_eq_true rfl) fl37 (fun _ h9 => h9) rfl dX7_lighter_45 ?_
          refine lv_aload_n hx hb dX7_lighter_48 rfl (lv_at hl 0 rfl) ?_
          refine va_get (D := D) (ci := 6) (v := .ref h_now) (C := RX7) (T := TX7) (N := 10) hx hb hts hiX7 hown hK hP 0 rfl rfl 0 (Nat.le_of_ble_eq_true rfl) fl10 (fun _ h9 => h9) rfl dX7_lighter_49 ?_
          refine hs_cvM (va_runV (As := [.ref h_now]) (rest := []) ⟨hx, hb, hml, hown, hts⟩ (gf_learn l D k _ h_ranks q_ahead q_ways q_z h_now n_a n_N n_J n_F af (hLt n_F) (hHv n_F) (by first | assumption | exact ⟨by first | omega | (dsimp; omega), by first | omega | (dsimp; omega), ⟨by first | omega | (dsimp; omega), by first | omega | (dsimp; omega)⟩, by first | omega | (dsimp; omega), by first | omega | (dsimp; omega)⟩) (thB_pr hB)) (cwV 1 hts gX7_lighter_X2_learn rfl rfl rfl ⟨rfl, hq_X2_learn⟩ ⟨Nat.le_of_ble_eq_true rfl, Nat.le_of_ble_eq_true rfl⟩) (hs_preV hK hN (hs_subP (w := [_, _, _, _, _, _, _, _, _, _]) hP [9, 10, 1, 2, 3, 4, 5, 6, 7, 8] rfl) (hD.sub (ws' := [_, _, _, _, _, _, _, _, _, _]) [9, 10, 1, 2, 3, 4, 5, 6, 7, 8] (by decide +kernel) rfl) (ci := 1) (q0 := 0) rfl rfl) rfl rfl hl.1 rfl (lv_room (Nat.le_of_ble_eq_true rfl)) dX7_lighter_52 ⟨Nat.le_of_ble_eq_true rfl, Nat.le_of_ble_eq_true rfl⟩) hP hD hS hA [true, false, false, false, false, false, false, false, false, false, false, true] [_, _] [_, _, _, _, _, _, _, _, _, _] rfl [8, 9, 0, 1, 2, 3, 4, 5, 6, 7] rfl [2, 3, 4, 5, 6, 7, 8, 9, 0, 1] (fun u_15 => [_, _, _, _, _, _, _, _, _, _]) (fun _ => rfl) (by decide +kernel) [true, false, false, false, false, false, false, false, false, false, false, true] (fun u_15 => [_, _, _, _, _, _, _, _, _, _, _, _]) (fun _ => rfl) (fun u_15 H locs hw_14 hP hD hS => ?_)
          have hw_14 : ∀ h, h < 5 → (u_15 h = nI (hAh (hLt n_F) (hHv n_F) (n_N 3) h) ∧ hAh (hLt n_F) (hHv n_F) (n_N 3) h < 32) := hw_14
          refine lv_aload_n hx hb dX7_lighter_55 rfl (lv_at hl 0 rfl) ?_
          refine va_get (D := D) (ci := 6) (v := .ref h_ranks) (C := RX7) (T := TX7) (N := 10) hx hb hts hiX7 hown hK hP 0 rfl rfl 5 (Nat.le_of_ble_eq_true rfl) fl37 (fun _ h9 => h9) rfl dX7_lighter_56 ?_
          refine lv_iload_n hx hb dX7_lighter_59 rfl (lv_at hl 1 rfl) ?_
          refine lv_iload_n hx hb dX7_lighter_60 rfl (lv_at hl 2 rfl) ?_
          refine hs_ciM (va_runV (As := [.int (nI j_5), .int (nI j_10)]) (rest := []) ⟨hx, hb, hml, hown, hts⟩ (gf_howManyWith l D k _ h_ranks q_ahead q_ways (n_N 2) j_5 j_10 u_15 wf (hAh (hLt n_F) (hHv n_F) (n_N 3)) (by omega) (by omega) (by omega) hw_14) (cwV 2 hts gX7_lighter_X2_howManyWith rfl rfl rfl ⟨rfl, hq_X2_howManyWith⟩ ⟨Nat.le_of_ble_eq_true rfl, Nat.le_of_ble_eq_true rfl⟩) (hs_preV hK hN (hs_subP (w := [_, _, _]) hP [9, 10, 11] rfl) (hD.sub (ws' := [_, _, _]) [9, 10, 11] (hs_upnd rfl) rfl) (ci := 1) (q0 := 0) rfl rfl) rfl rfl hl.1 rfl (lv_room (Nat.le_of_ble_eq_true rfl)) dX7_lighter_61 ⟨Nat.le_of_ble_eq_true rfl, Nat.le_of_ble_eq_true rfl⟩) hP hD hS hA [true, true, true, true, true, true, true, true, true, false, false, false] [_, _, _, _, _, _, _, _, _] [_, _, _] rfl [0, 1, 2] rfl [0, 1, 2] (fun u_18 => [_, _, _]) (fun _ => rfl) (hs_upnd rfl) [true, true, true, true, true, true, true, true, true, false, false, false] (fun u_18 => [_, _, _, _, _, _, _, _, _, _, _, _]) (fun _ => rfl) (fun r_16 u_18 H locs hw_17 hP hD hS => ?_)
          have hw_17 : r_16 = nI (Wm (n_N 2) (ahx (hAh (hLt n_F) (hHv n_F) (n_N 3)) j_5 j_10) (n_N 2) (2 ^ (n_N 2) - 1)) ∧ ∀ h, h < 5 → (u_18.1 h = nI ((hAh (hLt n_F) (hHv n_F) (n_N 3)) h) ∧ (hAh (hLt n_F) (hHv n_F) (n_N 3)) h < 32) := hw_17
          refine hs_topi (nI (Wm (n_N 2) (ahx (hAh (hLt n_F) (hHv n_F) (n_N 3)) j_5 j_10) (n_N 2) (2 ^ (n_N 2) - 1))) hw_17.1 ?_
          have hW9 := Wm_3125 (n := n_N 2) (ah := ahx (hAh (hLt n_F) (hHv n_F) (n_N 3)) j_5 j_10) (S := 2 ^ n_N 2 - 1) (by omega)
          refine lv_if_ne (tgt := 70) hx hb dX7_lighter_64 rfl (fun c_19 => ?_) (fun c_19 => ?_)
          · have nc_19 : ¬ (Wm (n_N 2) (ahx (hAh (hLt n_F) (hHv n_F) (n_N 3)) j_5 j_10) (n_N 2) (2 ^ (n_N 2) - 1)) = 0 := fun hq9 => c_19 ((nI_eq (a := (Wm (n_N 2) (ahx (hAh (hLt n_F) (hHv n_F) (n_N 3)) j_5 j_10) (n_N 2) (2 ^ (n_N 2) - 1))) (b := 0) (by omega) (by omega)).mpr hq9)
            refine lv_aload_n hx hb dX7_lighter_70 rfl (lv_at hl 0 rfl) ?_
            refine va_get (D := D) (ci := 6) (v := .ref h_now) (C := RX7) (T := TX7) (N := 10) hx hb hts hiX7 hown hK hP 0 rfl rfl 0 (Nat.le_of_ble_eq_true rfl) fl10 (fun _ h9 => h9) rfl dX7_lighter_71 ?_
            refine lv_iload_n hx hb dX7_lighter_74 rfl (lv_at hl 1 rfl) ?_
            refine lv_iload_n hx hb dX7_lighter_75 rfl (lv_at hl 2 rfl) ?_
            refine hs_cvM (va_runV (As := [.int (nI j_5), .int (nI j_10)]) (rest := []) ⟨hx, hb, hml, hown, hts⟩ (g_addPair l D k _ h_now n_a n_N n_J n_F (nI j_5) (nI j_10) (by omega)) (cwV 2 hts gX7_lighter_X6_addPair rfl rfl rfl ⟨rfl, hq_X6_addPair⟩ ⟨Nat.le_of_ble_eq_true rfl, Nat.le_of_ble_eq_true rfl⟩) (hs_preV hK hN (hs_subP (w := [_, _, _, _, _, _, _, _]) hP [1, 2, 3, 4, 5, 6, 7, 8] rfl) (hD.sub (ws' := [_, _, _, _, _, _, _, _]) [1, 2, 3, 4, 5, 6, 7, 8] (hs_upnd rfl) rfl) (ci := 5) (q0 := 0) rfl rfl) rfl rfl hl.1 rfl (lv_room (Nat.le_of_ble_eq_true rfl)) dX7_lighter_76 ⟨Nat.le_of_ble_eq_true rfl, Nat.le_of_ble_eq_true rfl⟩) hP hD hS hA [true, false, false, false, false, false, false, false, false, true, true, true] [_, _, _, _] [_, _, _, _, _, _, _, _] rfl [0, 1, 2, 3, 4, 5, 6, 7] rfl [0, 1, 2, 3, 4, 5, 6, 7] (fun u_22 => [_, _, _, _, _, _, _, _]) (fun _ => rfl) (hs_upnd rfl) [true, false, false, false, false, false, false, false, false, true, true, true] (fun u_22 => [_, _, _, _, _, _, _, _, _, _, _, _]) (fun _ => rfl) (fun u_22 H locs hw_21 hP hD hS => ?_)
            refine lv_aload_n hx hb dX7_lighter_79 rfl (lv_at hl 0 rfl) ?_
            refine va_get (D := D) (ci := 6) (v := .ref h_now) (C := RX7) (T := TX7) (N := 10) hx hb hts hiX7 hown hK hP 0 rfl rfl 0 (Nat.le_of_ble_eq_true rfl) fl10 (fun _ h9 => h9) rfl dX7_lighter_80 ?_
            refine va_get (D := D) (ci := 5) (v := .int (nI ((n_N 3) + 1))) (C := RX6) (T := TX6) (N := 15) hx hb hts hiX6 hown hK hP 1 rfl rfl 13 (Nat.le_of_ble_eq_true rfl) fl111 (fun _ h9 => h9) rfl dX7_lighter_83 ?_
            exact hs_iret hx hb hr hlocks hK hP hD hS ((n_N 3) + 1, upd (n_F 2) ((nI (n_N 3)).toNatClampNeg) (nI j_5), upd (n_F 3) ((nI (n_N 3)).toNatClampNeg) (nI j_10), n_N 2, u_18.1, u_18.2) [0, 1, 2, 3, 4, 5, 6, 7, 8, 9, 10, 11] rfl (hs_upnd rfl) dX7_lighter_86 (⟨Or.inr ⟨_, _, by omega, by omega, nc_11, rfl, rfl, Or.inr (Or.inr ⟨by omega, nc_19, rfl, by rw [nI_clamp (by omega)]⟩)⟩, by (try dsimp only); first | exact Or.inl rfl | exact Or.inr rfl⟩)
          · have nc_19 : (Wm (n_N 2) (ahx (hAh (hLt n_F) (hHv n_F) (n_N 3)) j_5 j_10) (n_N 2) (2 ^ (n_N 2) - 1)) = 0 := (nI_eq (a := (Wm (n_N 2) (ahx (hAh (hLt n_F) (hHv n_F) (n_N 3)) j_5 j_10) (n_N 2) (2 ^ (n_N 2) - 1))) (b := 0) (by omega) (by omega)).mp c_19
            refine lv_bipush (v := (-2)) hx hb dX7_lighter_67 hkb_m2 ?_
            exact hs_iret hx hb hr hlocks hK hP hD hS (n_N 3, n_F 2, n_F 3, n_N 2, u_18.1, u_18.2) [0, 1, 2, 3, 4, 5, 6, 7, 8, 9, 10, 11] rfl (hs_upnd rfl) dX7_lighter_69 (⟨Or.inr ⟨_, _, by omega, by omega, nc_11, rfl, rfl, Or.inr (Or.inl ⟨by omega, nc_19, rfl, rfl⟩)⟩, by (try dsimp only); first | exact Or.inl rfl | exact Or.inr rfl⟩)
        · have nc_12 : ¬ (n_N 3) < 8 := fun hq9 => c_12 ((nI_ltI (a := (n_N 3)) (b := 8) (by omega) (by omega)).mpr hq9)
          refine lv_bipush (v := (-3)) hx hb dX7_lighter_41 hkb_m3 ?_
          exact hs_iret hx hb hr hlocks hK hP hD hS (n_N 3, n_F 2, n_F 3, q_z, af, wf) [0, 1, 2, 3, 4, 5, 6, 7, 8, 9, 10, 11] rfl (hs_upnd rfl) dX7_lighter_43 (⟨Or.inr ⟨_, _, by omega, by omega, nc_11, rfl, rfl, Or.inl ⟨by omega, rfl, rfl⟩⟩, by (try dsimp only); first | exact Or.inl rfl | exact Or.inr rfl⟩)
      · have nc_11 : j_5 = j_10 := (nI_eq (a := j_5) (b := j_10) (by omega) (by omega)).mp c_11
        refine lv_iconst (v := (-1)) hx hb dX7_lighter_27 hki_m1 ?_
        exact hs_iret hx hb hr hlocks hK hP hD hS (n_N 3, n_F 2, n_F 3, q_z, af, wf) [0, 1, 2, 3, 4, 5, 6, 7, 8, 9, 10, 11] rfl (hs_upnd rfl) dX7_lighter_28 (⟨Or.inl ⟨fun z9 => (by obtain ⟨x9, y9, hx9, hy9, hn9, ex9, ey9⟩ := z9; have e8 := (nI_eq (by omega) (by omega)).mp ex9; have e9 := (nI_eq (by omega) (by omega)).mp ey9; have e7 := nc_11; omega), rfl, rfl⟩, by (try dsimp only); first | exact Or.inl rfl | exact Or.inr rfl⟩)
