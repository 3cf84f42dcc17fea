set_option maxHeartbeats 4000000 in
set_option maxRecDepth 100000 in
theorem gpf_halves (l : Launch) (D : va_G) (k : Nat → ClassId) (sz : Nat) (h : Nat) (h_now : Nat) (h_trial : Nat) (h_images : Nat) (h_imageThere : Nat) (h_teller : Nat) (h_ranks : Nat) (h_court : Nat) (h_sheets : Nat) (h_lf : Int32) (h_lt : Int32) (n_a : Nat → Nat) (n_N : Nat → Nat) (n_J : Nat → Int32) (n_F : Nat → Nat → Int32) (a : Int32) (what : Int32) (hN0 : thN n_N) (hF : thF n_N n_F) (h2 : 2 ≤ n_N 0) : MI l yX7_halves wsX7_halves ({ frames := 4, cells := 0, slots := 0, locals := 98 }) D k [.ref h, .int a, .int what] [oq6 h h_now h_trial h_images h_imageThere h_teller h_ranks h_court h_sheets h_lf h_lt, oqT h_now n_a n_N n_J, oqF0 k n_a n_F, oqF1 k n_a n_F, oqF2 k n_a n_F, oqF3 k n_a n_F, oqF4 k n_a n_F, oqF5 k n_a n_F, oqF6 k n_a n_F] sz (fun (r : Int32) (u : Unit) => r = A_haC n_N n_J n_F a what) (fun (u : Unit) => [oq6 h h_now h_trial h_images h_imageThere h_teller h_ranks h_court h_sheets h_lf h_lt, oqT h_now n_a n_N n_J, oqF0 k n_a n_F, oqF1 k n_a n_F, oqF2 k n_a n_F, oqF3 k n_a n_F, oqF4 k n_a n_F, oqF5 k n_a n_F, oqF6 k n_a n_F]) := by
  refine Met.ofW (cc := cX7_halves) (maxL := 4) (ret := (some .int)) hpn_X7 rfl ?_
  intro p e s m args below meth c s₁ B hml hv
  obtain ⟨rfl, hsz, hP, hK, hD0, hN⟩ := hv
  have hx := B.exec
  have hb := B.bytes
  have hr := B.returns
  have hlocks := B.notSynchronized
  have hts := atoms_spec (ws := wsX7_halves) B.pre
  have hown := findClass_of_methodNamed B.named
  have hown : s.vm.findClass RX7 = some m.cls := hown
  have hiX7 : ∀ w ∈ u_ws RX7 TX7 10, w ∈ wsX7_halves := fun w9 hw9 => List.mem_cons_of_mem _ (igX7 w9 hw9)
  have fl10 := hts (.fieldLink RX7 10 "HalfScales" "now" "LHalfScales$Thing;") (List.mem_cons_of_mem _ (hs_inG 1 215 rfl rfl))
  have hNn := hN0
  obtain ⟨I0, I1, ⟨I2, I2b⟩, I3, I4⟩ := hN0
  subst hsz
  have hD := hD0.self (sz := s.heap.size)
  generalize hAe : va_A [oq6 h h_now h_trial h_images h_imageThere h_teller h_ranks h_court h_sheets h_lf h_lt, oqT h_now n_a n_N n_J, oqF0 k n_a n_F, oqF1 k n_a n_F, oqF2 k n_a n_F, oqF3 k n_a n_F, oqF4 k n_a n_F, oqF5 k n_a n_F, oqF6 k n_a n_F] s.heap.size = A at hD ⊢
  have hA : ∀ q : Nat, s.heap.size ≤ q → A q := fun q h => by rw [← hAe]; exact Or.inr h
  have hS : va_S A s.heap s.heap [] := va_S.rf
  have hl := lv_entry ([.ref h, .int a, .int what]) (n := 4) (Nat.le_of_ble_eq_true rfl)
  rw [lg_entry_eq]
  generalize (lg_sl ([.ref h, .int a, .int what]) ++ List.replicate (4 - (lg_sl ([.ref h, .int a, .int what])).length) Slot.unset).toArray = ls at hl ⊢
  have hl : lv_has ls 4 [(0, .ref h), (1, .int a), (2, .int what)] := hl
  have hP : va_P D vwCl [oq6 h h_now h_trial h_images h_imageThere h_teller h_ranks h_court h_sheets h_lf h_lt, oqT h_now n_a n_N n_J, oqF0 k n_a n_F, oqF1 k n_a n_F, oqF2 k n_a n_F, oqF3 k n_a n_F, oqF4 k n_a n_F, oqF5 k n_a n_F, oqF6 k n_a n_F] s.heap := hP
  refine lv_iload_n hx hb dX7_halves_0 rfl (lv_at hl 1 rfl) ?_
  refine lv_iconst (v := 0) hx hb dX7_halves_1 hki_0 ?_
  refine lv_aload_n hx hb dX7_halves_2 rfl (lv_at hl 0 rfl) ?_
  refine va_get (D := D) (ci := 6) (v := .ref h_now) (C := RX7) (T := TX7) (N := 10) hx hb hts hiX7 hown hK hP 0 rfl rfl 0 (Nat.le_of_ble_eq_true rfl) fl10 (fun _ h9 => h9) rfl dX7_halves_3 ?_
  refine hs_ciM (va_runV (As := []) (rest := [.int 0, .int a]) ⟨hx, hb, hml, hown, hts⟩ (g_allPeople l D k _ h_now n_a n_N n_J (by first | assumption | exact ⟨by first | omega | (dsimp; omega), by first | omega | (dsimp; omega), ⟨by first | omega | (dsimp; omega), by first | omega | (dsimp; omega)⟩, by first | omega | (dsimp; omega), by first | omega | (dsimp; omega)⟩)) (cwV 0 hts gX7_halves_X6_allPeople rfl rfl rfl ⟨rfl, hq_X6_allPeople⟩ ⟨Nat.le_of_ble_eq_true rfl, Nat.le_of_ble_eq_true rfl⟩) (hs_preV hK hN (hs_subP (w := [_]) hP [1] rfl) (hD.sub (ws' := [_]) [1] (hs_upnd rfl) rfl) (ci := 5) (q0 := 0) rfl rfl) rfl rfl hl.1 rfl (lv_room (Nat.le_of_ble_eq_true rfl)) dX7_halves_6 ⟨Nat.le_of_ble_eq_true rfl, Nat.le_of_ble_eq_true rfl⟩) hP hD hS hA [true, false, true, true, true, true, true, true, true] [_, _, _, _, _, _, _, _] [_] rfl [0] rfl [0] (fun u_3 => [_]) (fun _ => rfl) (hs_upnd rfl) [true, false, true, true, true, true, true, true, true] (fun u_3 => [_, _, _, _, _, _, _, _, _]) (fun _ => rfl) (fun r_1 u_3 H locs hw_2 hP hD hS => ?_)
  refine hs_topi (nI (2 ^ (n_N 1) - 1)) hw_2 ?_
  refine hs_pi (va_runS (As := [.int a, .int 0, .int (nI (2 ^ (n_N 1) - 1))]) (rest := []) ⟨hx, hb, hml, hown, hts⟩ (g_within l D k _ a 0 (nI (2 ^ (n_N 1) - 1))) (va_cwS 3 hts gX7_halves_X7_within rfl rfl rfl hq_X7_within ⟨Nat.le_of_ble_eq_true rfl, Nat.le_of_ble_eq_true rfl⟩) (hs_preS hK hN (hs_subP (w := []) hP [] rfl) (hD.sub (ws' := []) [] rfl rfl)) rfl rfl hl.1 rfl (lv_room (Nat.le_of_ble_eq_true rfl)) dX7_halves_9 ⟨Nat.le_of_ble_eq_true rfl, Nat.le_of_ble_eq_true rfl⟩) hP hD hS hA (fun r_4 u_6 H locs hw_5 hP hS => ?_)
  refine hs_topi (hsb (hsin a 0 (nI (2 ^ (n_N 1) - 1)))) hw_5 ?_
  refine lv_if_eq (tgt := 24) hx hb dX7_halves_12 rfl (fun c_7 => ?_) (fun c_7 => ?_)
  · refine lv_iconst (v := (-1)) hx hb dX7_halves_24 hki_m1 ?_
    exact hs_iret hx hb hr hlocks hK hP hD hS () [0, 1, 2, 3, 4, 5, 6, 7, 8] rfl (hs_upnd rfl) dX7_halves_25 ((by rw [A_haC, if_neg (by rw [hs_n0 c_7, Bool.false_and]; decide)]))
  · refine lv_iload_n hx hb dX7_halves_15 rfl (lv_at hl 2 rfl) ?_
    refine lv_iconst (v := 0) hx hb dX7_halves_16 hki_0 ?_
    refine lv_iconst (v := 1) hx hb dX7_halves_17 hki_1 ?_
    refine hs_pi (va_runS (As := [.int what, .int 0, .int 1]) (rest := []) ⟨hx, hb, hml, hown, hts⟩ (g_within l D k _ what 0 1) (va_cwS 3 hts gX7_halves_X7_within rfl rfl rfl hq_X7_within ⟨Nat.le_of_ble_eq_true rfl, Nat.le_of_ble_eq_true rfl⟩) (hs_preS hK hN (hs_subP (w := []) hP [] rfl) (hD.sub (ws' := []) [] rfl rfl)) rfl rfl hl.1 rfl (lv_room (Nat.le_of_ble_eq_true rfl)) dX7_halves_18 ⟨Nat.le_of_ble_eq_true rfl, Nat.le_of_ble_eq_true rfl⟩) hP hD hS hA (fun r_8 u_10 H locs hw_9 hP hS => ?_)
    refine hs_topi (hsb (hsin what 0 1)) hw_9 ?_
    refine lv_if_ne (tgt := 26) hx hb dX7_halves_21 rfl (fun c_11 => ?_) (fun c_11 => ?_)
    · refine lv_aload_n hx hb dX7_halves_26 rfl (lv_at hl 0 rfl) ?_
      refine va_get (D := D) (ci := 6) (v := .ref h_now) (C := RX7) (T := TX7) (N := 10) hx hb hts hiX7 hown hK hP 0 rfl rfl 0 (Nat.le_of_ble_eq_true rfl) fl10 (fun _ h9 => h9) rfl dX7_halves_27 ?_
      refine lv_iload_n hx hb dX7_halves_30 rfl (lv_at hl 1 rfl) ?_
      refine hs_ciM (va_runS (As := [.ref h_now, .int a]) (rest := []) ⟨hx, hb, hml, hown, hts⟩ (gf_fewestCuts l D k _ h_now n_a n_N n_J n_F a (by first | assumption | exact ⟨by first | omega | (dsimp; omega), by first | omega | (dsimp; omega), ⟨by first | omega | (dsimp; omega), by first | omega | (dsimp; omega)⟩, by first | omega | (dsimp; omega), by first | omega | (dsimp; omega)⟩)) (va_cwS 2 hts gX7_halves_X1_fewestCuts rfl rfl rfl hq_X1_fewestCuts ⟨Nat.le_of_ble_eq_true rfl, Nat.le_of_ble_eq_true rfl⟩) (hs_preS hK hN (hs_subP (w := [_, _, _, _, _, _, _, _]) hP [1, 2, 3, 4, 5, 6, 7, 8] rfl) (hD.sub (ws' := [_, _, _, _, _, _, _, _]) [1, 2, 3, 4, 5, 6, 7, 8] (hs_upnd rfl) rfl)) rfl rfl hl.1 rfl (lv_room (Nat.le_of_ble_eq_true rfl)) dX7_halves_31 ⟨Nat.le_of_ble_eq_true rfl, Nat.le_of_ble_eq_true rfl⟩) hP hD hS hA [true, false, false, false, false, false, false, false, false] [_] [_, _, _, _, _, _, _, _] rfl [0, 1, 2, 3, 4, 5, 6, 7] rfl [0, 1, 2, 3, 4, 5, 6, 7] (fun u_14 => [_, _, _, _, _, _, _, _]) (fun _ => rfl) (hs_upnd rfl) [true, false, false, false, false, false, false, false, false] (fun u_14 => [_, _, _, _, _, _, _, _, _]) (fun _ => rfl) (fun r_12 u_14 H locs hw_13 hP hD hS => ?_)
      refine hs_topi (A_haF n_N n_J n_F a) hw_13 ?_
      refine lv_istore_n (lv' := [(3, .int (A_haF n_N n_J n_F a)), (0, .ref h), (1, .int a), (2, .int what)]) hx hb dX7_halves_34 rfl hl (Nat.le_of_ble_eq_true rfl) rfl (fun ls hl => ?_)
      refine lv_iload_n hx hb dX7_halves_35 rfl (lv_at hl 0 rfl) ?_
      refine lv_bipush (v := (-4)) hx hb dX7_halves_36 hkb_m4 ?_
      refine lv_icmp_ne (tgt := 44) hx hb dX7_halves_38 rfl (fun c_15 => ?_) (fun c_15 => ?_)
      · refine lv_iload_n hx hb dX7_halves_44 rfl (lv_at hl 3 rfl) ?_
        refine lv_if_ne (tgt := 59) hx hb dX7_halves_45 rfl (fun c_16 => ?_) (fun c_16 => ?_)
        · refine lv_iload_n hx hb dX7_halves_59 rfl (lv_at hl 0 rfl) ?_
          exact hs_iret hx hb hr hlocks hK hP hD hS () [0, 1, 2, 3, 4, 5, 6, 7, 8] rfl (hs_upnd rfl) dX7_halves_60 ((by rw [A_haC, if_pos (by rw [hs_nb c_7, hs_nb c_11]; rfl), if_neg c_15, if_neg c_16]))
        · refine lv_aload_n hx hb dX7_halves_48 rfl (lv_at hl 1 rfl) ?_
          refine va_get (D := D) (ci := 6) (v := .ref h_now) (C := RX7) (T := TX7) (N := 10) hx hb hts hiX7 hown hK hP 0 rfl rfl 0 (Nat.le_of_ble_eq_true rfl) fl10 (fun _ h9 => h9) rfl dX7_halves_49 ?_
          refine lv_iload_n hx hb dX7_halves_52 rfl (lv_at hl 0 rfl) ?_
          refine hs_ciM (va_runS (As := [.ref h_now, .int (A_haF n_N n_J n_F a)]) (rest := []) ⟨hx, hb, hml, hown, hts⟩ (gf_cutsOf l D k _ h_now n_a n_N n_J (A_haF n_N n_J n_F a)) (va_cwS 2 hts gX7_halves_X1_cutsOf rfl rfl rfl hq_X1_cutsOf ⟨Nat.le_of_ble_eq_true rfl, Nat.le_of_ble_eq_true rfl⟩) (hs_preS hK hN (hs_subP (w := [_]) hP [1] rfl) (hD.sub (ws' := [_]) [1] (hs_upnd rfl) rfl)) rfl rfl hl.1 rfl (lv_room (Nat.le_of_ble_eq_true rfl)) dX7_halves_53 ⟨Nat.le_of_ble_eq_true rfl, Nat.le_of_ble_eq_true rfl⟩) hP hD hS hA [true, false, true, true, true, true, true, true, true] [_, _, _, _, _, _, _, _] [_] rfl [0] rfl [0] (fun u_19 => [_]) (fun _ => rfl) (hs_upnd rfl) [true, false, true, true, true, true, true, true, true] (fun u_19 => [_, _, _, _, _, _, _, _, _]) (fun _ => rfl) (fun r_17 u_19 H locs hw_18 hP hD hS => ?_)
          refine hs_topi (A_cuC (n_N 0) (A_haF n_N n_J n_F a)) hw_18 ?_
          refine lv_goto (tgt := 60) hx hb dX7_halves_56 rfl ?_
          exact hs_iret hx hb hr hlocks hK hP hD hS () [0, 1, 2, 3, 4, 5, 6, 7, 8] rfl (hs_upnd rfl) dX7_halves_60 ((by rw [A_haC, if_pos (by rw [hs_nb c_7, hs_nb c_11]; rfl), if_neg c_15, if_pos c_16]))
      · refine lv_bipush (v := (-4)) hx hb dX7_halves_41 hkb_m4 ?_
        exact hs_iret hx hb hr hlocks hK hP hD hS () [0, 1, 2, 3, 4, 5, 6, 7, 8] rfl (hs_upnd rfl) dX7_halves_43 ((by rw [A_haC, if_pos (by rw [hs_nb c_7, hs_nb c_11]; rfl), if_pos c_15]))
    · refine lv_iconst (v := (-1)) hx hb dX7_halves_24 hki_m1 ?_
      exact hs_iret hx hb hr hlocks hK hP hD hS () [0, 1, 2, 3, 4, 5, 6, 7, 8] rfl (hs_upnd rfl) dX7_halves_25 ((by rw [A_haC, if_neg (by rw [hs_n0 c_11, Bool.and_false]; decide)]))

set_option maxHeartbeats 4000000 in
set_option maxRecDepth 100000 in
theorem gqf_halves (l : Launch) (D : va_G) (k : Nat → ClassId) (sz : Nat) (mo : Nat) (mo_st : Nat) (mo_at : Nat) (mo_isKept : Nat) (mo_pe : Nat) (mo_hm : Nat) (mo_draft : Nat) (mo_dp : Nat) (mo_dh : Nat) (mo_toldLines : Int32) (mo_highest : Int32) (mo_tape : Nat) (mo_tl : Nat) (mo_ps : Nat) (mo_fr : Nat) (mo_sort : Int32) (mo_value : Int32) (mo_ft : Nat) (mo_wrongAt : Int32) (mo_row : Nat) (mo_orderMany : Int32) (mo_fo : Nat) (mo_lightest : Int32) (mo_heaviest : Int32) (mo_before : Nat) (mo_justSum : Int64) (mo_toldSum : Int64) (mo_allWays : Int64) (mo_lanes : Nat) (mo_sizes : Nat) (mo_cells : Nat) (mo_torn : Int32) (mo_had : Nat) (sf : Nat → Int32) (c0 : Nat) (c3 : Nat) (c4 : Nat) (fi : Nat) (af : Nat → Int32) (a : Int32) (what : Int32) (e0 : sf 0 = nI c0) (h0 : c0 ≤ 8) (h02 : 2 ≤ c0) (e3 : sf 16 = nI c3) (h3 : c3 ≤ 8) (e4 : sf 25 = nI c4) (h4 : c4 ≤ 6) (hpe : mo_pe ≤ 4) (hm2 : 2 ≤ mo_hm) (hm5 : mo_hm ≤ 5) (ef : sf 14 = nI fi) (hfi : fi ≤ 99) (hsaw : ∀ i, i < c4 → vp_in (sf (26 + 3 * i)) 4) : MI l yX8_halves wsX8_halves ({ frames := 3, cells := 0, slots := 0, locals := 70 }) D k [.ref mo, .int a, .int what] [oq7 mo mo_st mo_at mo_isKept (nI mo_pe) (nI mo_hm) mo_draft (nI mo_dp) (nI mo_dh) mo_toldLines mo_highest mo_tape (nI mo_tl) (nI mo_ps) (nI mo_fr) mo_sort mo_value (nI mo_ft) mo_wrongAt mo_row mo_orderMany (nI mo_fo) mo_lightest mo_heaviest mo_before mo_justSum mo_toldSum mo_allWays mo_lanes mo_sizes mo_cells mo_torn mo_had, oqI k mo_st 132 (sf), oqI k mo_at 44 (af)] sz (fun (r : Int32) (u : Nat → Int32) => r = A_haM c0 mo_pe sf a what) (fun (u : Nat → Int32) => [oq7 mo mo_st mo_at mo_isKept (nI mo_pe) (nI mo_hm) mo_draft (nI mo_dp) (nI mo_dh) mo_toldLines mo_highest mo_tape (nI mo_tl) (nI mo_ps) (nI mo_fr) mo_sort mo_value (nI mo_ft) mo_wrongAt mo_row mo_orderMany (nI mo_fo) mo_lightest mo_heaviest mo_before mo_justSum mo_toldSum mo_allWays mo_lanes mo_sizes mo_cells mo_torn mo_had, oqI k mo_st 132 (sf), oqI k mo_at 44 (u)]) := by
  refine Met.ofW (cc := cX8_halves) (maxL := 8) (ret := (some .int)) hpn_X8 rfl ?_
  intro p e s m args below meth c s₁ B hml hv
  obtain ⟨rfl, hsz, hP, hK, hD0, hN⟩ := hv
  have hx := B.exec
  have hb := B.bytes
  have hr := B.returns
  have hlocks := B.notSynchronized
  have hts := atoms_spec (ws := wsX8_halves) B.pre
  have hown := findClass_of_methodNamed B.named
  have hown : s.vm.findClass RX8 = some m.cls := hown
  have hiX8 : ∀ w ∈ u_ws RX8 TX8 32, w ∈ wsX8_halves := fun w9 hw9 => List.mem_cons_of_mem _ (igX8 w9 hw9)
  have fl63 := hts (.fieldLink RX8 63 "HalfScalesModel" "people" "I") (List.mem_cons_of_mem _ (hs_inG 4 83 rfl rfl))
  have fl13 := hts (.fieldLink RX8 13 "HalfScalesModel" "at" "[I") (List.mem_cons_of_mem _ (hs_inG 4 81 rfl rfl))
  have kc235 := hts (.constant RX8 235 (1000000)) (List.mem_cons_of_mem _ (hs_inG 5 163 rfl rfl))
  have hpw : 2 ^ c0 ≤ 256 := Nat.le_trans (Nat.pow_le_pow_right (n := 2) (by decide) h0) (by decide)
  have hp1 : 1 ≤ 2 ^ c0 := Nat.one_le_two_pow
  subst hsz
  have hD := hD0.self (sz := s.heap.size)
  generalize hAe : va_A [oq7 mo mo_st mo_at mo_isKept (nI mo_pe) (nI mo_hm) mo_draft (nI mo_dp) (nI mo_dh) mo_toldLines mo_highest mo_tape (nI mo_tl) (nI mo_ps) (nI mo_fr) mo_sort mo_value (nI mo_ft) mo_wrongAt mo_row mo_orderMany (nI mo_fo) mo_lightest mo_heaviest mo_before mo_justSum mo_toldSum mo_allWays mo_lanes mo_sizes mo_cells mo_torn mo_had, oqI k mo_st 132 (sf), oqI k mo_at 44 (af)] s.heap.size = A at hD ⊢
  have hA : ∀ q : Nat, s.heap.size ≤ q → A q := fun q h => by rw [← hAe]; exact Or.inr h
  have hS : va_S A s.heap s.heap [] := va_S.rf
  have hl := lv_entry ([.ref mo, .int a, .int what]) (n := 8) (Nat.le_of_ble_eq_true rfl)
  rw [lg_entry_eq]
  generalize (lg_sl ([.ref mo, .int a, .int what]) ++ List.replicate (8 - (lg_sl ([.ref mo, .int a, .int what])).length) Slot.unset).toArray = ls at hl ⊢
  have hl : lv_has ls 8 [(0, .ref mo), (1, .int a), (2, .int what)] := hl
  have hP : va_P D vwCl [oq7 mo mo_st mo_at mo_isKept (nI mo_pe) (nI mo_hm) mo_draft (nI mo_dp) (nI mo_dh) mo_toldLines mo_highest mo_tape (nI mo_tl) (nI mo_ps) (nI mo_fr) mo_sort mo_value (nI mo_ft) mo_wrongAt mo_row mo_orderMany (nI mo_fo) mo_lightest mo_heaviest mo_before mo_justSum mo_toldSum mo_allWays mo_lanes mo_sizes mo_cells mo_torn mo_had, oqI k mo_st 132 (sf), oqI k mo_at 44 (af)] s.heap := hP
  refine lv_iload_n hx hb dX8_halves_0 rfl (lv_at hl 1 rfl) ?_
  refine lv_i2l hx hb dX8_halves_1 rfl ?_
  refine lv_lconst (v := 0) hx hb dX8_halves_2 (by decide) ?_
  refine lv_iconst (v := 1) hx hb dX8_halves_3 hki_1 ?_
  refine lv_aload_n hx hb dX8_halves_4 rfl (lv_at hl 0 rfl) ?_
  refine va_get (D := D) (ci := 7) (v := .int (nI mo_pe)) (C := RX8) (T := TX8) (N := 32) hx hb hts hiX8 hown hK hP 0 rfl rfl 3 (Nat.le_of_ble_eq_true rfl) fl63 (fun _ h9 => h9) rfl dX8_halves_5 ?_
  refine lv_ishl hx hb dX8_halves_8 ?_
  refine lv_iconst (v := 1) hx hb dX8_halves_9 hki_1 ?_
  refine lv_isub hx hb dX8_halves_10 ?_
  refine lv_i2l hx hb dX8_halves_11 rfl ?_
  refine hs_pi (va_runS (As := [.long (((a) : Int32).toInt64), .long 0, .long ((((1 <<< ((nI mo_pe) &&& 31)) - 1) : Int32).toInt64)]) (rest := []) ⟨hx, hb, hml, hown, hts⟩ (gm_in l D k _ a 0 ((1 <<< ((nI mo_pe) &&& 31)) - 1)) (va_cwS 3 hts gX8_halves_X8_in rfl rfl rfl hq_X8_in ⟨Nat.le_of_ble_eq_true rfl, Nat.le_of_ble_eq_true rfl⟩) (hs_preS hK hN (hs_subP (w := []) hP [] rfl) (hD.sub (ws' := []) [] rfl rfl)) rfl rfl hl.1 rfl (lv_room (Nat.le_of_ble_eq_true rfl)) dX8_halves_12 ⟨Nat.le_of_ble_eq_true rfl, Nat.le_of_ble_eq_true rfl⟩) hP hD hS hA (fun r_1 u_3 H locs hw_2 hP hS => ?_)
  refine hs_topi (hsb (hsin a 0 ((1 <<< ((nI mo_pe) &&& 31)) - 1))) hw_2 ?_
  refine lv_if_eq (tgt := 25) hx hb dX8_halves_15 rfl (fun c_4 => ?_) (fun c_4 => ?_)
  · refine lv_iconst (v := (-1)) hx hb dX8_halves_25 hki_m1 ?_
    exact hs_iret hx hb hr hlocks hK hP hD hS af [0, 1, 2] rfl (hs_upnd rfl) dX8_halves_26 ((by rw [A_haM, if_neg (by rw [hs_n0 c_4, Bool.false_and]; decide)]))
  · refine lv_iload_n hx hb dX8_halves_18 rfl (lv_at hl 2 rfl) ?_
    refine hs_pi (va_runS (As := [.int what]) (rest := []) ⟨hx, hb, hml, hown, hts⟩ (gm_isPart l D k _ what) (va_cwS 1 hts gX8_halves_X8_isPart rfl rfl rfl hq_X8_isPart ⟨Nat.le_of_ble_eq_true rfl, Nat.le_of_ble_eq_true rfl⟩) (hs_preS hK hN (hs_subP (w := []) hP [] rfl) (hD.sub (ws' := []) [] rfl rfl)) rfl rfl hl.1 rfl (lv_room (Nat.le_of_ble_eq_true rfl)) dX8_halves_19 ⟨Nat.le_of_ble_eq_true rfl, Nat.le_of_ble_eq_true rfl⟩) hP hD hS hA (fun r_5 u_7 H locs hw_6 hP hS => ?_)
    refine hs_topi (hsb (hsin what 0 1)) hw_6 ?_
    refine lv_if_ne (tgt := 27) hx hb dX8_halves_22 rfl (fun c_8 => ?_) (fun c_8 => ?_)
    · refine lv_aload_n hx hb dX8_halves_27 rfl (lv_at hl 0 rfl) ?_
      refine hs_cvM (va_runV (As := []) (rest := []) ⟨hx, hb, hml, hown, hts⟩ (gm_starts l D k _ mo mo_st mo_at mo_isKept mo_pe mo_hm mo_draft mo_dp mo_dh mo_toldLines mo_highest mo_tape mo_tl mo_ps mo_fr mo_sort mo_value mo_ft mo_wrongAt mo_row mo_orderMany mo_fo mo_lightest mo_heaviest mo_before mo_justSum mo_toldSum mo_allWays mo_lanes mo_sizes mo_cells mo_torn mo_had sf af) (cwV 0 hts gX8_halves_X8_starts rfl rfl rfl ⟨rfl, hq_X8_starts⟩ ⟨Nat.le_of_ble_eq_true rfl, Nat.le_of_ble_eq_true rfl⟩) (hs_preV hK hN (hs_subP (w := [_, _, _]) hP [0, 1, 2] rfl) (hD.sub (ws' := [_, _, _]) [0, 1, 2] (hs_upnd rfl) rfl) (ci := 7) (q0 := 0) rfl rfl) rfl rfl hl.1 rfl (lv_room (Nat.le_of_ble_eq_true rfl)) dX8_halves_28 ⟨Nat.le_of_ble_eq_true rfl, Nat.le_of_ble_eq_true rfl⟩) hP hD hS hA [false, false, false] [] [_, _, _] rfl [0, 1, 2] rfl [0, 1, 2] (fun u_11 => [_, _, _]) (fun _ => rfl) (hs_upnd rfl) [false, false, false] (fun u_11 => [_, _, _]) (fun _ => rfl) (fun u_11 H locs hw_10 hP hD hS => ?_)
      have hw_10 : ∀ j, j < 44 → u_11 j = sf j := hw_10
      have e0a : u_11 0 = nI c0 := (hw_10 0 (by decide)).trans e0
      have e3a : u_11 16 = nI c3 := (hw_10 16 (by decide)).trans e3
      have e4a : u_11 25 = nI c4 := (hw_10 25 (by decide)).trans e4
      have hw_10 : ∀ j, j < 44 → u_11 j = sf j := hw_10
      refine lv_ldc hx hb hown kc235 dX8_halves_31 ?_
      refine lv_istore_n (lv' := [(3, .int 1000000), (0, .ref mo), (1, .int a), (2, .int what)]) hx hb dX8_halves_33 rfl hl (Nat.le_of_ble_eq_true rfl) rfl (fun ls hl => ?_)
      refine lv_bipush (v := (-4)) hx hb dX8_halves_34 hkb_m4 ?_
      refine lv_istore (lv' := [(4, .int (-4)), (3, .int 1000000), (0, .ref mo), (1, .int a), (2, .int what)]) hx hb dX8_halves_36 hl (Nat.le_of_ble_eq_true rfl) rfl (fun ls hl => ?_)
      refine lv_iconst (v := 0) hx hb dX8_halves_38 hki_0 ?_
      refine lv_istore (lv' := [(5, .int 0), (4, .int (-4)), (3, .int 1000000), (0, .ref mo), (1, .int a), (2, .int what)]) hx hb dX8_halves_39 hl (Nat.le_of_ble_eq_true rfl) rfl (fun ls hl => ?_)
      refine hs_while (σ := Int32 × Int32 × Nat) (fun x => x.2.2 ≤ 2 ^ c0 ∧ x.2.1 = (A_haG c0 mo_pe sf a x.2.2).1 ∧ x.1 = (A_haG c0 mo_pe sf a x.2.2).2) (fun x => 2 ^ c0 - x.2.2) (fun x => [oq7 mo mo_st mo_at mo_isKept (nI mo_pe) (nI mo_hm) mo_draft (nI mo_dp) (nI mo_dh) mo_toldLines mo_highest mo_tape (nI mo_tl) (nI mo_ps) (nI mo_fr) mo_sort mo_value (nI mo_ft) mo_wrongAt mo_row mo_orderMany (nI mo_fo) mo_lightest mo_heaviest mo_before mo_justSum mo_toldSum mo_allWays mo_lanes mo_sizes mo_cells mo_torn mo_had, oqI k mo_st 132 (sf), oqI k mo_at 44 (u_11)]) (fun x => [(5, .int (nI (x.2.2))), (4, .int (x.2.1)), (3, .int (x.1)), (0, .ref mo), (1, .int a), (2, .int what)]) ?_ (1000000, (-4), 0) ?_ hP hD hS hl
      · intro x hI ih41 H locs ls hP hD hS hl
        obtain ⟨few, fo, se⟩ := x
        try dsimp only at hI
        have hP : va_P D vwCl [_, _, _] H := hP
        have hD : va_D A [_, _, _] := hD
        have hl : lv_has ls 8 [(5, .int (nI se)), (4, .int fo), (3, .int few), (0, .ref mo), (1, .int a), (2, .int what)] := hl
        refine lv_iload hx hb dX8_halves_41 (lv_at hl 0 rfl) ?_
        refine lv_aload_n hx hb dX8_halves_43 rfl (lv_at hl 3 rfl) ?_
        refine hs_ciM (va_runV (As := []) (rest := [.int (nI se)]) ⟨hx, hb, hml, hown, hts⟩ (gm_every l D k _ mo mo_st mo_at mo_isKept mo_pe mo_hm mo_draft mo_dp mo_dh mo_toldLines mo_highest mo_tape mo_tl mo_ps mo_fr mo_sort mo_value mo_ft mo_wrongAt mo_row mo_orderMany mo_fo mo_lightest mo_heaviest mo_before mo_justSum mo_toldSum mo_allWays mo_lanes mo_sizes mo_cells mo_torn mo_had u_11 c0 (by first | exact e0a | exact e0) (by omega)) (cwV 0 hts gX8_halves_X8_every rfl rfl rfl ⟨rfl, hq_X8_every⟩ ⟨Nat.le_of_ble_eq_true rfl, Nat.le_of_ble_eq_true rfl⟩) (hs_preV hK hN (hs_subP (w := [_, _]) hP [0, 2] rfl) (hD.sub (ws' := [_, _]) [0, 2] (hs_upnd rfl) rfl) (ci := 7) (q0 := 0) rfl rfl) rfl rfl hl.1 rfl (lv_room (Nat.le_of_ble_eq_true rfl)) dX8_halves_44 ⟨Nat.le_of_ble_eq_true rfl, Nat.le_of_ble_eq_true rfl⟩) hP hD hS hA [false, true, false] [_] [_, _] rfl [0, 1] rfl [0, 1] (fun u_14 => [_, _]) (fun _ => rfl) (hs_upnd rfl) [false, true, false] (fun u_14 => [_, _, _]) (fun _ => rfl) (fun r_12 u_14 H locs hw_13 hP hD hS => ?_)
        refine hs_topi (nI (2 ^ c0 - 1)) hw_13 ?_
        refine lv_icmp_gt (tgt := 163) hx hb dX8_halves_47 rfl (fun c_15 => ?_) (fun c_15 => ?_)
        · have nc_15 : (2 ^ c0 - 1) < se := (nI_ltI (a := (2 ^ c0 - 1)) (b := se) (by omega) (by omega)).mp c_15
          refine lv_iload hx hb dX8_halves_163 (lv_at hl 1 rfl) ?_
          refine lv_bipush (v := (-4)) hx hb dX8_halves_165 hkb_m4 ?_
          refine lv_icmp_ne (tgt := 175) hx hb dX8_halves_167 rfl (fun c_16 => ?_) (fun c_16 => ?_)
          · refine lv_iload_n hx hb dX8_halves_175 rfl (lv_at hl 5 rfl) ?_
            refine lv_if_ne (tgt := 183) hx hb dX8_halves_176 rfl (fun c_17 => ?_) (fun c_17 => ?_)
            · refine lv_iload hx hb dX8_halves_183 (lv_at hl 1 rfl) ?_
              exact hs_iret hx hb hr hlocks hK hP hD hS u_11 [0, 1, 2] rfl (hs_upnd rfl) dX8_halves_185 ((by rw [A_haM, if_pos (by rw [hs_nb c_4, hs_nb c_8]; rfl), ← show se = 2 ^ c0 by omega, if_neg (by rw [← hI.2.1]; exact c_16), if_neg c_17, hI.2.1]))
            · refine lv_iload_n hx hb dX8_halves_179 rfl (lv_at hl 2 rfl) ?_
              refine lv_goto (tgt := 185) hx hb dX8_halves_180 rfl ?_
              exact hs_iret hx hb hr hlocks hK hP hD hS u_11 [0, 1, 2] rfl (hs_upnd rfl) dX8_halves_185 ((by rw [A_haM, if_pos (by rw [hs_nb c_4, hs_nb c_8]; rfl), ← show se = 2 ^ c0 by omega, if_neg (by rw [← hI.2.1]; exact c_16), if_pos c_17, hI.2.2]))
          · refine lv_bipush (v := (-4)) hx hb dX8_halves_170 hkb_m4 ?_
            refine lv_goto (tgt := 185) hx hb dX8_halves_172 rfl ?_
            exact hs_iret hx hb hr hlocks hK hP hD hS u_11 [0, 1, 2] rfl (hs_upnd rfl) dX8_halves_185 ((by rw [A_haM, if_pos (by rw [hs_nb c_4, hs_nb c_8]; rfl), ← show se = 2 ^ c0 by omega, if_pos (by rw [← hI.2.1]; exact c_16)]))
        · have nc_15 : ¬ (2 ^ c0 - 1) < se := fun hq9 => c_15 ((nI_ltI (a := (2 ^ c0 - 1)) (b := se) (by omega) (by omega)).mpr hq9)
          have hJo : se < 2 ^ c0 ∧ fo = (A_haG c0 mo_pe sf a se).1 ∧ few = (A_haG c0 mo_pe sf a se).2 := ⟨by omega, hI.2.1, hI.2.2⟩
          refine lv_aload_n hx hb dX8_halves_50 rfl (lv_at hl 3 rfl) ?_
          refine lv_iload hx hb dX8_halves_51 (lv_at hl 0 rfl) ?_
          refine hs_ciM (va_runV (As := [.int (nI se)]) (rest := []) ⟨hx, hb, hml, hown, hts⟩ (gr_cutsOf l D k _ mo mo_st mo_at mo_isKept mo_pe mo_hm mo_draft mo_dp mo_dh mo_toldLines mo_highest mo_tape mo_tl mo_ps mo_fr mo_sort mo_value mo_ft mo_wrongAt mo_row mo_orderMany mo_fo mo_lightest mo_heaviest mo_before mo_justSum mo_toldSum mo_allWays mo_lanes mo_sizes mo_cells mo_torn mo_had u_11 c0 (nI se) (by first | exact e0a | exact e0) (by omega)) (cwV 1 hts gX8_halves_X8_cutsOf rfl rfl rfl ⟨rfl, hq_X8_cutsOf⟩ ⟨Nat.le_of_ble_eq_true rfl, Nat.le_of_ble_eq_true rfl⟩) (hs_preV hK hN (hs_subP (w := [_, _]) hP [0, 2] rfl) (hD.sub (ws' := [_, _]) [0, 2] (hs_upnd rfl) rfl) (ci := 7) (q0 := 0) rfl rfl) rfl rfl hl.1 rfl (lv_room (Nat.le_of_ble_eq_true rfl)) dX8_halves_53 ⟨Nat.le_of_ble_eq_true rfl, Nat.le_of_ble_eq_true rfl⟩) hP hD hS hA [false, true, false] [_] [_, _] rfl [0, 1] rfl [0, 1] (fun u_20 => [_, _]) (fun _ => rfl) (hs_upnd rfl) [false, true, false] (fun u_20 => [_, _, _]) (fun _ => rfl) (fun r_18 u_20 H locs hw_19 hP hD hS => ?_)
          refine hs_topi (A_cuM (nI se) (c0 - 1)) hw_19 ?_
          refine lv_iload_n hx hb dX8_halves_56 rfl (lv_at hl 2 rfl) ?_
          refine lv_icmp_ge (tgt := 64) hx hb dX8_halves_57 rfl (fun c_21 => ?_) (fun c_21 => ?_)
          · refine lv_iconst (v := 0) hx hb dX8_halves_64 hki_0 ?_
            refine lv_istore (lv' := [(6, .int 0), (5, .int (nI se)), (4, .int fo), (3, .int few), (0, .ref mo), (1, .int a), (2, .int what)]) hx hb dX8_halves_65 hl (Nat.le_of_ble_eq_true rfl) rfl (fun ls hl => ?_)
            refine lv_iconst (v := 0) hx hb dX8_halves_67 hki_0 ?_
            refine lv_istore (lv' := [(7, .int 0), (6, .int 0), (5, .int (nI se)), (4, .int fo), (3, .int few), (0, .ref mo), (1, .int a), (2, .int what)]) hx hb dX8_halves_68 hl (Nat.le_of_ble_eq_true rfl) rfl (fun ls hl => ?_)
            refine hs_while (σ := Int32 × Nat) (fun x => x.2 ≤ mo_pe ∧ x.1 = hsb (decide (A_cuM (nI se) (c0 - 1) < few) && A_jsM c0 sf a (nI se) x.2)) (fun x => mo_pe - x.2) (fun x => [oq7 mo mo_st mo_at mo_isKept (nI mo_pe) (nI mo_hm) mo_draft (nI mo_dp) (nI mo_dh) mo_toldLines mo_highest mo_tape (nI mo_tl) (nI mo_ps) (nI mo_fr) mo_sort mo_value (nI mo_ft) mo_wrongAt mo_row mo_orderMany (nI mo_fo) mo_lightest mo_heaviest mo_before mo_justSum mo_toldSum mo_allWays mo_lanes mo_sizes mo_cells mo_torn mo_had, oqI k mo_st 132 (sf), oqI k mo_at 44 (u_11)]) (fun x => [(7, .int (nI (x.2))), (6, .int (x.1)), (5, .int (nI se)), (4, .int fo), (3, .int few), (0, .ref mo), (1, .int a), (2, .int what)]) ?_ (0, 0) ?_ hP hD hS hl
            · intro x hI ih70 H locs ls hP hD hS hl
              obtain ⟨iz, q⟩ := x
              try dsimp only at hI
              have hP : va_P D vwCl [_, _, _] H := hP
              have hD : va_D A [_, _, _] := hD
              have hl : lv_has ls 8 [(7, .int (nI q)), (6, .int iz), (5, .int (nI se)), (4, .int fo), (3, .int few), (0, .ref mo), (1, .int a), (2, .int what)] := hl
              refine lv_iload hx hb dX8_halves_70 (lv_at hl 0 rfl) ?_
              refine lv_aload_n hx hb dX8_halves_72 rfl (lv_at hl 5 rfl) ?_
              refine va_get (D := D) (ci := 7) (v := .int (nI mo_pe)) (C := RX8) (T := TX8) (N := 32) hx hb hts hiX8 hown hK hP 0 rfl rfl 3 (Nat.le_of_ble_eq_true rfl) fl63 (fun _ h9 => h9) rfl dX8_halves_73 ?_
              refine lv_icmp_ge (tgt := 127) hx hb dX8_halves_76 rfl (fun c_22 => ?_) (fun c_22 => ?_)
              · have nc_22 : mo_pe ≤ q := (nI_leI (a := mo_pe) (b := q) (by omega) (by omega)).mp c_22
                refine lv_iload hx hb dX8_halves_127 (lv_at hl 1 rfl) ?_
                refine lv_if_eq (tgt := 137) hx hb dX8_halves_129 rfl (fun c_23 => ?_) (fun c_23 => ?_)
                · refine lv_iload hx hb dX8_halves_137 (lv_at hl 3 rfl) ?_
                  refine lv_istore (lv' := [(4, .int fo), (7, .int (nI q)), (6, .int iz), (5, .int (nI se)), (3, .int few), (0, .ref mo), (1, .int a), (2, .int what)]) hx hb dX8_halves_139 hl (Nat.le_of_ble_eq_true rfl) rfl (fun ls hl => ?_)
                  refine lv_iload hx hb dX8_halves_141 (lv_at hl 2 rfl) ?_
                  refine lv_if_eq (tgt := 155) hx hb dX8_halves_143 rfl (fun c_24 => ?_) (fun c_24 => ?_)
                  · refine lv_iload_n hx hb dX8_halves_155 rfl (lv_at hl 4 rfl) ?_
                    refine lv_istore_n (lv' := [(3, .int few), (4, .int fo), (7, .int (nI q)), (6, .int iz), (5, .int (nI se)), (0, .ref mo), (1, .int a), (2, .int what)]) hx hb dX8_halves_156 rfl hl (Nat.le_of_ble_eq_true rfl) rfl (fun ls hl => ?_)
                    refine lv_iinc (v := nI (se + 1)) (lv' := [(5, .int (nI (se + 1))), (3, .int few), (4, .int fo), (7, .int (nI q)), (6, .int iz), (0, .ref mo), (1, .int a), (2, .int what)]) hx hb dX8_halves_157 hl (k := 4) rfl (nI_add (se) 1) (Nat.le_of_ble_eq_true rfl) rfl (fun ls hl => ?_)
                    refine lv_goto (tgt := 41) hx hb dX8_halves_160 rfl ?_
                    exact ih41 (few, fo, se + 1) (by (try dsimp only); exact hs_fwn hJo (by rw [← show q = mo_pe by omega]; exact hs_n0 (hI.2.symm.trans c_23))) (by (try dsimp only); omega) _ _ _ hP hD hS (lv_sub hl [0, 2, 1, 5, 6, 7] rfl)
                  · refine lv_aload_n hx hb dX8_halves_146 rfl (lv_at hl 5 rfl) ?_
                    refine lv_iload hx hb dX8_halves_147 (lv_at hl 3 rfl) ?_
                    refine hs_ciM (va_runV (As := [.int (nI se)]) (rest := []) ⟨hx, hb, hml, hown, hts⟩ (gr_cutsOf l D k _ mo mo_st mo_at mo_isKept mo_pe mo_hm mo_draft mo_dp mo_dh mo_toldLines mo_highest mo_tape mo_tl mo_ps mo_fr mo_sort mo_value mo_ft mo_wrongAt mo_row mo_orderMany mo_fo mo_lightest mo_heaviest mo_before mo_justSum mo_toldSum mo_allWays mo_lanes mo_sizes mo_cells mo_torn mo_had u_11 c0 (nI se) (by first | exact e0a | exact e0) (by omega)) (cwV 1 hts gX8_halves_X8_cutsOf rfl rfl rfl ⟨rfl, hq_X8_cutsOf⟩ ⟨Nat.le_of_ble_eq_true rfl, Nat.le_of_ble_eq_true rfl⟩) (hs_preV hK hN (hs_subP (w := [_, _]) hP [0, 2] rfl) (hD.sub (ws' := [_, _]) [0, 2] (hs_upnd rfl) rfl) (ci := 7) (q0 := 0) rfl rfl) rfl rfl hl.1 rfl (lv_room (Nat.le_of_ble_eq_true rfl)) dX8_halves_149 ⟨Nat.le_of_ble_eq_true rfl, Nat.le_of_ble_eq_true rfl⟩) hP hD hS hA [false, true, false] [_] [_, _] rfl [0, 1] rfl [0, 1] (fun u_27 => [_, _]) (fun _ => rfl) (hs_upnd rfl) [false, true, false] (fun u_27 => [_, _, _]) (fun _ => rfl) (fun r_25 u_27 H locs hw_26 hP hD hS => ?_)
                    refine hs_topi (A_cuM (nI se) (c0 - 1)) hw_26 ?_
                    refine lv_goto (tgt := 156) hx hb dX8_halves_152 rfl ?_
                    refine lv_istore_n (lv' := [(3, .int (A_cuM (nI se) (c0 - 1))), (4, .int fo), (7, .int (nI q)), (6, .int iz), (5, .int (nI se)), (0, .ref mo), (1, .int a), (2, .int what)]) hx hb dX8_halves_156 rfl hl (Nat.le_of_ble_eq_true rfl) rfl (fun ls hl => ?_)
                    refine lv_iinc (v := nI (se + 1)) (lv' := [(5, .int (nI (se + 1))), (3, .int (A_cuM (nI se) (c0 - 1))), (4, .int fo), (7, .int (nI q)), (6, .int iz), (0, .ref mo), (1, .int a), (2, .int what)]) hx hb dX8_halves_157 hl (k := 4) rfl (nI_add (se) 1) (Nat.le_of_ble_eq_true rfl) rfl (fun ls hl => ?_)
                    refine lv_goto (tgt := 41) hx hb dX8_halves_160 rfl ?_
                    exact ih41 (A_cuM (nI se) (c0 - 1), fo, se + 1) (by (try dsimp only); exact absurd c_23 c_24) (by (try dsimp only); omega) _ _ _ hP hD hS (lv_sub hl [0, 2, 1, 5, 6, 7] rfl)
                · refine lv_iload hx hb dX8_halves_132 (lv_at hl 2 rfl) ?_
                  refine lv_goto (tgt := 139) hx hb dX8_halves_134 rfl ?_
                  refine lv_istore (lv' := [(4, .int (nI se)), (7, .int (nI q)), (6, .int iz), (5, .int (nI se)), (3, .int few), (0, .ref mo), (1, .int a), (2, .int what)]) hx hb dX8_halves_139 hl (Nat.le_of_ble_eq_true rfl) rfl (fun ls hl => ?_)
                  refine lv_iload hx hb dX8_halves_141 (lv_at hl 2 rfl) ?_
                  refine lv_if_eq (tgt := 155) hx hb dX8_halves_143 rfl (fun c_28 => ?_) (fun c_28 => ?_)
                  · refine lv_iload_n hx hb dX8_halves_155 rfl (lv_at hl 4 rfl) ?_
                    refine lv_istore_n (lv' := [(3, .int few), (4, .int (nI se)), (7, .int (nI q)), (6, .int iz), (5, .int (nI se)), (0, .ref mo), (1, .int a), (2, .int what)]) hx hb dX8_halves_156 rfl hl (Nat.le_of_ble_eq_true rfl) rfl (fun ls hl => ?_)
                    refine lv_iinc (v := nI (se + 1)) (lv' := [(5, .int (nI (se + 1))), (3, .int few), (4, .int (nI se)), (7, .int (nI q)), (6, .int iz), (0, .ref mo), (1, .int a), (2, .int what)]) hx hb dX8_halves_157 hl (k := 4) rfl (nI_add (se) 1) (Nat.le_of_ble_eq_true rfl) rfl (fun ls hl => ?_)
                    refine lv_goto (tgt := 41) hx hb dX8_halves_160 rfl ?_
                    exact ih41 (few, nI se, se + 1) (by (try dsimp only); exact absurd c_28 c_23) (by (try dsimp only); omega) _ _ _ hP hD hS (lv_sub hl [0, 2, 1, 5, 6, 7] rfl)
                  · refine lv_aload_n hx hb dX8_halves_146 rfl (lv_at hl 5 rfl) ?_
                    refine lv_iload hx hb dX8_halves_147 (lv_at hl 3 rfl) ?_
                    refine hs_ciM (va_runV (As := [.int (nI se)]) (rest := []) ⟨hx, hb, hml, hown, hts⟩ (gr_cutsOf l D k _ mo mo_st mo_at mo_isKept mo_pe mo_hm mo_draft mo_dp mo_dh mo_toldLines mo_highest mo_tape mo_tl mo_ps mo_fr mo_sort mo_value mo_ft mo_wrongAt mo_row mo_orderMany mo_fo mo_lightest mo_heaviest mo_before mo_justSum mo_toldSum mo_allWays mo_lanes mo_sizes mo_cells mo_torn mo_had u_11 c0 (nI se) (by first | exact e0a | exact e0) (by omega)) (cwV 1 hts gX8_halves_X8_cutsOf rfl rfl rfl ⟨rfl, hq_X8_cutsOf⟩ ⟨Nat.le_of_ble_eq_true rfl, Nat.le_of_ble_eq_true rfl⟩) (hs_preV hK hN (hs_subP (w := [_, _]) hP [0, 2] rfl) (hD.sub (ws' := [_, _]) [0, 2] (hs_upnd rfl) rfl) (ci := 7) (q0 := 0) rfl rfl) rfl rfl hl.1 rfl (lv_room (Nat.le_of_ble_eq_true rfl)) dX8_halves_149 ⟨Nat.le_of_ble_eq_true rfl, Nat.le_of_ble_eq_true rfl⟩) hP hD hS hA [false, true, false] [_] [_, _] rfl [0, 1] rfl [0, 1] (fun u_31 => [_, _]) (fun _ => rfl) (hs_upnd rfl) [false, true, false] (fun u_31 => [_, _, _]) (fun _ => rfl) (fun r_29 u_31 H locs hw_30 hP hD hS => ?_)
                    refine hs_topi (A_cuM (nI se) (c0 - 1)) hw_30 ?_
                    refine lv_goto (tgt := 156) hx hb dX8_halves_152 rfl ?_
                    refine lv_istore_n (lv' := [(3, .int (A_cuM (nI se) (c0 - 1))), (4, .int (nI se)), (7, .int (nI q)), (6, .int iz), (5, .int (nI se)), (0, .ref mo), (1, .int a), (2, .int what)]) hx hb dX8_halves_156 rfl hl (Nat.le_of_ble_eq_true rfl) rfl (fun ls hl => ?_)
                    refine lv_iinc (v := nI (se + 1)) (lv' := [(5, .int (nI (se + 1))), (3, .int (A_cuM (nI se) (c0 - 1))), (4, .int (nI se)), (7, .int (nI q)), (6, .int iz), (0, .ref mo), (1, .int a), (2, .int what)]) hx hb dX8_halves_157 hl (k := 4) rfl (nI_add (se) 1) (Nat.le_of_ble_eq_true rfl) rfl (fun ls hl => ?_)
                    refine lv_goto (tgt := 41) hx hb dX8_halves_160 rfl ?_
                    exact ih41 (A_cuM (nI se) (c0 - 1), nI se, se + 1) (by (try dsimp only); exact hs_fwy hJo (by rw [← show q = mo_pe by omega]; exact hs_nb (fun t9 => c_23 (hI.2.trans t9)))) (by (try dsimp only); omega) _ _ _ hP hD hS (lv_sub hl [0, 2, 1, 5, 6, 7] rfl)
              · have nc_22 : ¬ mo_pe ≤ q := fun hq9 => c_22 ((nI_leI (a := mo_pe) (b := q) (by omega) (by omega)).mpr hq9)
                refine lv_iload hx hb dX8_halves_79 (lv_at hl 1 rfl) ?_
                refine lv_if_eq (tgt := 118) hx hb dX8_halves_81 rfl (fun c_32 => ?_) (fun c_32 => ?_)
                · refine lv_iconst (v := 0) hx hb dX8_halves_118 hki_0 ?_
                  refine lv_istore (lv' := [(6, .int 0), (7, .int (nI q)), (5, .int (nI se)), (4, .int fo), (3, .int few), (0, .ref mo), (1, .int a), (2, .int what)]) hx hb dX8_halves_119 hl (Nat.le_of_ble_eq_true rfl) rfl (fun ls hl => ?_)
                  refine lv_iinc (v := nI (q + 1)) (lv' := [(7, .int (nI (q + 1))), (6, .int 0), (5, .int (nI se)), (4, .int fo), (3, .int few), (0, .ref mo), (1, .int a), (2, .int what)]) hx hb dX8_halves_121 hl (k := 1) rfl (nI_add (q) 1) (Nat.le_of_ble_eq_true rfl) rfl (fun ls hl => ?_)
                  refine lv_goto (tgt := 70) hx hb dX8_halves_124 rfl ?_
                  exact ih70 (0, q + 1) (by (try dsimp only); exact ⟨by omega, by rw [A_jsM, ← Bool.and_assoc, hs_n0 (hI.2.symm.trans c_32), Bool.false_and]; rfl⟩) (by (try dsimp only); omega) _ _ _ hP hD hS (lv_sub hl [0, 1, 2, 3, 4, 5, 6, 7] rfl)
                · refine lv_iload_n hx hb dX8_halves_84 rfl (lv_at hl 6 rfl) ?_
                  refine lv_iload hx hb dX8_halves_85 (lv_at hl 0 rfl) ?_
                  refine lv_ishr hx hb dX8_halves_87 ?_
                  refine lv_iconst (v := 1) hx hb dX8_halves_88 hki_1 ?_
                  refine lv_iand hx hb dX8_halves_89 ?_
                  refine lv_if_eq (tgt := 114) hx hb dX8_halves_90 rfl (fun c_33 => ?_) (fun c_33 => ?_)
                  · refine lv_iconst (v := 1) hx hb dX8_halves_114 hki_1 ?_
                    refine lv_goto (tgt := 119) hx hb dX8_halves_115 rfl ?_
                    refine lv_istore (lv' := [(6, .int 1), (7, .int (nI q)), (5, .int (nI se)), (4, .int fo), (3, .int few), (0, .ref mo), (1, .int a), (2, .int what)]) hx hb dX8_halves_119 hl (Nat.le_of_ble_eq_true rfl) rfl (fun ls hl => ?_)
                    refine lv_iinc (v := nI (q + 1)) (lv' := [(7, .int (nI (q + 1))), (6, .int 1), (5, .int (nI se)), (4, .int fo), (3, .int few), (0, .ref mo), (1, .int a), (2, .int what)]) hx hb dX8_halves_121 hl (k := 1) rfl (nI_add (q) 1) (Nat.le_of_ble_eq_true rfl) rfl (fun ls hl => ?_)
                    refine lv_goto (tgt := 70) hx hb dX8_halves_124 rfl ?_
                    exact ih70 (1, q + 1) (by (try dsimp only); exact ⟨by omega, by rw [A_jsM, ← Bool.and_assoc, hs_nb (fun t9 => c_32 (hI.2.trans t9)), decide_eq_true c_33]; rfl⟩) (by (try dsimp only); omega) _ _ _ hP hD hS (lv_sub hl [0, 1, 2, 3, 4, 5, 6, 7] rfl)
                  · refine lv_aload_n hx hb dX8_halves_93 rfl (lv_at hl 5 rfl) ?_
                    refine lv_iload hx hb dX8_halves_94 (lv_at hl 0 rfl) ?_
                    refine lv_iload hx hb dX8_halves_96 (lv_at hl 2 rfl) ?_
                    refine hs_ciM (va_runV (As := [.int (nI q), .int (nI se)]) (rest := []) ⟨hx, hb, hml, hown, hts⟩ (gr_moreLeft l D k _ mo mo_st mo_at mo_isKept mo_pe mo_hm mo_draft mo_dp mo_dh mo_toldLines mo_highest mo_tape mo_tl mo_ps mo_fr mo_sort mo_value mo_ft mo_wrongAt mo_row mo_orderMany mo_fo mo_lightest mo_heaviest mo_before mo_justSum mo_toldSum mo_allWays mo_lanes mo_sizes mo_cells mo_torn mo_had u_11 c0 q (nI se) (by first | exact e0a | exact e0) (by omega) (by omega)) (cwV 2 hts gX8_halves_X8_moreLeft rfl rfl rfl ⟨rfl, hq_X8_moreLeft⟩ ⟨Nat.le_of_ble_eq_true rfl, Nat.le_of_ble_eq_true rfl⟩) (hs_preV hK hN (hs_subP (w := [_, _]) hP [0, 2] rfl) (hD.sub (ws' := [_, _]) [0, 2] (hs_upnd rfl) rfl) (ci := 7) (q0 := 0) rfl rfl) rfl rfl hl.1 rfl (lv_room (Nat.le_of_ble_eq_true rfl)) dX8_halves_98 ⟨Nat.le_of_ble_eq_true rfl, Nat.le_of_ble_eq_true rfl⟩) hP hD hS hA [false, true, false] [_] [_, _] rfl [0, 1] rfl [0, 1] (fun u_36 => [_, _]) (fun _ => rfl) (hs_upnd rfl) [false, true, false] (fun u_36 => [_, _, _]) (fun _ => rfl) (fun r_34 u_36 H locs hw_35 hP hD hS => ?_)
                    refine hs_topi (A_ml (A_fm u_11 q) (nI se) c0) hw_35 ?_
                    refine hs_pi (va_runS (As := [.int (A_ml (A_fm u_11 q) (nI se) c0)]) (rest := []) ⟨hx, hb, hml, hown, hts⟩ (gr_sizeOf l D k _ (A_ml (A_fm u_11 q) (nI se) c0)) (va_cwS 1 hts gX8_halves_X8_sizeOf rfl rfl rfl hq_X8_sizeOf ⟨Nat.le_of_ble_eq_true rfl, Nat.le_of_ble_eq_true rfl⟩) (hs_preS hK hN (hs_subP (w := []) hP [] rfl) (hD.sub (ws' := []) [] rfl rfl)) rfl rfl hl.1 rfl (lv_room (Nat.le_of_ble_eq_true rfl)) dX8_halves_101 ⟨Nat.le_of_ble_eq_true rfl, Nat.le_of_ble_eq_true rfl⟩) hP hD hS hA (fun r_37 u_39 H locs hw_38 hP hS => ?_)
                    refine hs_topi (A_sz (A_ml (A_fm u_11 q) (nI se) c0)) hw_38 ?_
                    refine lv_aload_n hx hb dX8_halves_104 rfl (lv_at hl 5 rfl) ?_
                    refine va_get (D := D) (ci := 7) (v := .ref mo_at) (C := RX8) (T := TX8) (N := 32) hx hb hts hiX8 hown hK hP 0 rfl rfl 1 (Nat.le_of_ble_eq_true rfl) fl13 (fun _ h9 => h9) rfl dX8_halves_105 ?_
                    refine lv_bipush (v := 13) hx hb dX8_halves_108 hkb_13 ?_
                    refine va_iald hx hb hK hP 2 0 rfl rfl (hs_in (by decide)) dX8_halves_110 ?_
                    refine hs_topi (u_11 13) (by rfl) ?_
                    refine lv_icmp_gt (tgt := 118) hx hb dX8_halves_111 rfl (fun c_40 => ?_) (fun c_40 => ?_)
                    · refine lv_iconst (v := 0) hx hb dX8_halves_118 hki_0 ?_
                      refine lv_istore (lv' := [(6, .int 0), (7, .int (nI q)), (5, .int (nI se)), (4, .int fo), (3, .int few), (0, .ref mo), (1, .int a), (2, .int what)]) hx hb dX8_halves_119 hl (Nat.le_of_ble_eq_true rfl) rfl (fun ls hl => ?_)
                      refine lv_iinc (v := nI (q + 1)) (lv' := [(7, .int (nI (q + 1))), (6, .int 0), (5, .int (nI se)), (4, .int fo), (3, .int few), (0, .ref mo), (1, .int a), (2, .int what)]) hx hb dX8_halves_121 hl (k := 1) rfl (nI_add (q) 1) (Nat.le_of_ble_eq_true rfl) rfl (fun ls hl => ?_)
                      refine lv_goto (tgt := 70) hx hb dX8_halves_124 rfl ?_
                      exact ih70 (0, q + 1) (by (try dsimp only); exact ⟨by omega, by rw [A_jsM, ← Bool.and_assoc, hs_nb (fun t9 => c_32 (hI.2.trans t9)), decide_eq_false c_33, ← A_ml_congr c0 (fun x hx => A_fm_congr (show q < 4 by omega) (fun x hx => hw_10 x (by omega)) x (by omega)), ← hw_10 13 (by omega), decide_eq_false (Int32.not_le.mpr c_40)]; rfl⟩) (by (try dsimp only); omega) _ _ _ hP hD hS (lv_sub hl [0, 1, 2, 3, 4, 5, 6, 7] rfl)
                    · refine lv_iconst (v := 1) hx hb dX8_halves_114 hki_1 ?_
                      refine lv_goto (tgt := 119) hx hb dX8_halves_115 rfl ?_
                      refine lv_istore (lv' := [(6, .int 1), (7, .int (nI q)), (5, .int (nI se)), (4, .int fo), (3, .int few), (0, .ref mo), (1, .int a), (2, .int what)]) hx hb dX8_halves_119 hl (Nat.le_of_ble_eq_true rfl) rfl (fun ls hl => ?_)
                      refine lv_iinc (v := nI (q + 1)) (lv' := [(7, .int (nI (q + 1))), (6, .int 1), (5, .int (nI se)), (4, .int fo), (3, .int few), (0, .ref mo), (1, .int a), (2, .int what)]) hx hb dX8_halves_121 hl (k := 1) rfl (nI_add (q) 1) (Nat.le_of_ble_eq_true rfl) rfl (fun ls hl => ?_)
                      refine lv_goto (tgt := 70) hx hb dX8_halves_124 rfl ?_
                      exact ih70 (1, q + 1) (by (try dsimp only); exact ⟨by omega, by rw [A_jsM, ← Bool.and_assoc, hs_nb (fun t9 => c_32 (hI.2.trans t9)), decide_eq_false c_33, ← A_ml_congr c0 (fun x hx => A_fm_congr (show q < 4 by omega) (fun x hx => hw_10 x (by omega)) x (by omega)), ← hw_10 13 (by omega), decide_eq_true (Int32.not_lt.mp c_40)]; rfl⟩) (by (try dsimp only); omega) _ _ _ hP hD hS (lv_sub hl [0, 1, 2, 3, 4, 5, 6, 7] rfl)
            · (try dsimp only); exact ⟨Nat.zero_le _, by rw [decide_eq_false (Int32.not_lt.mpr c_21)]; rfl⟩
          · refine lv_iconst (v := 1) hx hb dX8_halves_60 hki_1 ?_
            refine lv_goto (tgt := 65) hx hb dX8_halves_61 rfl ?_
            refine lv_istore (lv' := [(6, .int 1), (5, .int (nI se)), (4, .int fo), (3, .int few), (0, .ref mo), (1, .int a), (2, .int what)]) hx hb dX8_halves_65 hl (Nat.le_of_ble_eq_true rfl) rfl (fun ls hl => ?_)
            refine lv_iconst (v := 0) hx hb dX8_halves_67 hki_0 ?_
            refine lv_istore (lv' := [(7, .int 0), (6, .int 1), (5, .int (nI se)), (4, .int fo), (3, .int few), (0, .ref mo), (1, .int a), (2, .int what)]) hx hb dX8_halves_68 hl (Nat.le_of_ble_eq_true rfl) rfl (fun ls hl => ?_)
            refine hs_while (σ := Int32 × Nat) (fun x => x.2 ≤ mo_pe ∧ x.1 = hsb (decide (A_cuM (nI se) (c0 - 1) < few) && A_jsM c0 sf a (nI se) x.2)) (fun x => mo_pe - x.2) (fun x => [oq7 mo mo_st mo_at mo_isKept (nI mo_pe) (nI mo_hm) mo_draft (nI mo_dp) (nI mo_dh) mo_toldLines mo_highest mo_tape (nI mo_tl) (nI mo_ps) (nI mo_fr) mo_sort mo_value (nI mo_ft) mo_wrongAt mo_row mo_orderMany (nI mo_fo) mo_lightest mo_heaviest mo_before mo_justSum mo_toldSum mo_allWays mo_lanes mo_sizes mo_cells mo_torn mo_had, oqI k mo_st 132 (sf), oqI k mo_at 44 (u_11)]) (fun x => [(7, .int (nI (x.2))), (6, .int (x.1)), (5, .int (nI se)), (4, .int fo), (3, .int few), (0, .ref mo), (1, .int a), (2, .int what)]) ?_ (1, 0) ?_ hP hD hS hl
            · intro x hI ih70 H locs ls hP hD hS hl
              obtain ⟨iz, q⟩ := x
              try dsimp only at hI
              have hP : va_P D vwCl [_, _, _] H := hP
              have hD : va_D A [_, _, _] := hD
              have hl : lv_has ls 8 [(7, .int (nI q)), (6, .int iz), (5, .int (nI se)), (4, .int fo), (3, .int few), (0, .ref mo), (1, .int a), (2, .int what)] := hl
              refine lv_iload hx hb dX8_halves_70 (lv_at hl 0 rfl) ?_
              refine lv_aload_n hx hb dX8_halves_72 rfl (lv_at hl 5 rfl) ?_
              refine va_get (D := D) (ci := 7) (v := .int (nI mo_pe)) (C := RX8) (T := TX8) (N := 32) hx hb hts hiX8 hown hK hP 0 rfl rfl 3 (Nat.le_of_ble_eq_true rfl) fl63 (fun _ h9 => h9) rfl dX8_halves_73 ?_
              refine lv_icmp_ge (tgt := 127) hx hb dX8_halves_76 rfl (fun c_41 => ?_) (fun c_41 => ?_)
              · have nc_41 : mo_pe ≤ q := (nI_leI (a := mo_pe) (b := q) (by omega) (by omega)).mp c_41
                refine lv_iload hx hb dX8_halves_127 (lv_at hl 1 rfl) ?_
                refine lv_if_eq (tgt := 137) hx hb dX8_halves_129 rfl (fun c_42 => ?_) (fun c_42 => ?_)
                · refine lv_iload hx hb dX8_halves_137 (lv_at hl 3 rfl) ?_
                  refine lv_istore (lv' := [(4, .int fo), (7, .int (nI q)), (6, .int iz), (5, .int (nI se)), (3, .int few), (0, .ref mo), (1, .int a), (2, .int what)]) hx hb dX8_halves_139 hl (Nat.le_of_ble_eq_true rfl) rfl (fun ls hl => ?_)
                  refine lv_iload hx hb dX8_halves_141 (lv_at hl 2 rfl) ?_
                  refine lv_if_eq (tgt := 155) hx hb dX8_halves_143 rfl (fun c_43 => ?_) (fun c_43 => ?_)
                  · refine lv_iload_n hx hb dX8_halves_155 rfl (lv_at hl 4 rfl) ?_
                    refine lv_istore_n (lv' := [(3, .int few), (4, .int fo), (7, .int (nI q)), (6, .int iz), (5, .int (nI se)), (0, .ref mo), (1, .int a), (2, .int what)]) hx hb dX8_halves_156 rfl hl (Nat.le_of_ble_eq_true rfl) rfl (fun ls hl => ?_)
                    refine lv_iinc (v := nI (se + 1)) (lv' := [(5, .int (nI (se + 1))), (3, .int few), (4, .int fo), (7, .int (nI q)), (6, .int iz), (0, .ref mo), (1, .int a), (2, .int what)]) hx hb dX8_halves_157 hl (k := 4) rfl (nI_add (se) 1) (Nat.le_of_ble_eq_true rfl) rfl (fun ls hl => ?_)
                    refine lv_goto (tgt := 41) hx hb dX8_halves_160 rfl ?_
                    exact ih41 (few, fo, se + 1) (by (try dsimp only); exact hs_fwn hJo (by rw [← show q = mo_pe by omega]; exact hs_n0 (hI.2.symm.trans c_42))) (by (try dsimp only); omega) _ _ _ hP hD hS (lv_sub hl [0, 2, 1, 5, 6, 7] rfl)
                  · refine lv_aload_n hx hb dX8_halves_146 rfl (lv_at hl 5 rfl) ?_
                    refine lv_iload hx hb dX8_halves_147 (lv_at hl 3 rfl) ?_
                    refine hs_ciM (va_runV (As := [.int (nI se)]) (rest := []) ⟨hx, hb, hml, hown, hts⟩ (gr_cutsOf l D k _ mo mo_st mo_at mo_isKept mo_pe mo_hm mo_draft mo_dp mo_dh mo_toldLines mo_highest mo_tape mo_tl mo_ps mo_fr mo_sort mo_value mo_ft mo_wrongAt mo_row mo_orderMany mo_fo mo_lightest mo_heaviest mo_before mo_justSum mo_toldSum mo_allWays mo_lanes mo_sizes mo_cells mo_torn mo_had u_11 c0 (nI se) (by first | exact e0a | exact e0) (by omega)) (cwV 1 hts gX8_halves_X8_cutsOf rfl rfl rfl ⟨rfl, hq_X8_cutsOf⟩ ⟨Nat.le_of_ble_eq_true rfl, Nat.le_of_ble_eq_true rfl⟩) (hs_preV hK hN (hs_subP (w := [_, _]) hP [0, 2] rfl) (hD.sub (ws' := [_, _]) [0, 2] (hs_upnd rfl) rfl) (ci := 7) (q0 := 0) rfl rfl) rfl rfl hl.1 rfl (lv_room (Nat.le_of_ble_eq_true rfl)) dX8_halves_149 ⟨Nat.le_of_ble_eq_true rfl, Nat.le_of_ble_eq_true rfl⟩) hP hD hS hA [false, true, false] [_] [_, _] rfl [0, 1] rfl [0, 1] (fun u_46 => [_, _]) (fun _ => rfl) (hs_upnd rfl) [false, true, false] (fun u_46 => [_, _, _]) (fun _ => rfl) (fun r_44 u_46 H locs hw_45 hP hD hS => ?_)
                    refine hs_topi (A_cuM (nI se) (c0 - 1)) hw_45 ?_
                    refine lv_goto (tgt := 156) hx hb dX8_halves_152 rfl ?_
                    refine lv_istore_n (lv' := [(3, .int (A_cuM (nI se) (c0 - 1))), (4, .int fo), (7, .int (nI q)), (6, .int iz), (5, .int (nI se)), (0, .ref mo), (1, .int a), (2, .int what)]) hx hb dX8_halves_156 rfl hl (Nat.le_of_ble_eq_true rfl) rfl (fun ls hl => ?_)
                    refine lv_iinc (v := nI (se + 1)) (lv' := [(5, .int (nI (se + 1))), (3, .int (A_cuM (nI se) (c0 - 1))), (4, .int fo), (7, .int (nI q)), (6, .int iz), (0, .ref mo), (1, .int a), (2, .int what)]) hx hb dX8_halves_157 hl (k := 4) rfl (nI_add (se) 1) (Nat.le_of_ble_eq_true rfl) rfl (fun ls hl => ?_)
                    refine lv_goto (tgt := 41) hx hb dX8_halves_160 rfl ?_
                    exact ih41 (A_cuM (nI se) (c0 - 1), fo, se + 1) (by (try dsimp only); exact absurd c_42 c_43) (by (try dsimp only); omega) _ _ _ hP hD hS (lv_sub hl [0, 2, 1, 5, 6, 7] rfl)
                · refine lv_iload hx hb dX8_halves_132 (lv_at hl 2 rfl) ?_
                  refine lv_goto (tgt := 139) hx hb dX8_halves_134 rfl ?_
                  refine lv_istore (lv' := [(4, .int (nI se)), (7, .int (nI q)), (6, .int iz), (5, .int (nI se)), (3, .int few), (0, .ref mo), (1, .int a), (2, .int what)]) hx hb dX8_halves_139 hl (Nat.le_of_ble_eq_true rfl) rfl (fun ls hl => ?_)
                  refine lv_iload hx hb dX8_halves_141 (lv_at hl 2 rfl) ?_
                  refine lv_if_eq (tgt := 155) hx hb dX8_halves_143 rfl (fun c_47 => ?_) (fun c_47 => ?_)
                  · refine lv_iload_n hx hb dX8_halves_155 rfl (lv_at hl 4 rfl) ?_
                    refine lv_istore_n (lv' := [(3, .int few), (4, .int (nI se)), (7, .int (nI q)), (6, .int iz), (5, .int (nI se)), (0, .ref mo), (1, .int a), (2, .int what)]) hx hb dX8_halves_156 rfl hl (Nat.le_of_ble_eq_true rfl) rfl (fun ls hl => ?_)
                    refine lv_iinc (v := nI (se + 1)) (lv' := [(5, .int (nI (se + 1))), (3, .int few), (4, .int (nI se)), (7, .int (nI q)), (6, .int iz), (0, .ref mo), (1, .int a), (2, .int what)]) hx hb dX8_halves_157 hl (k := 4) rfl (nI_add (se) 1) (Nat.le_of_ble_eq_true rfl) rfl (fun ls hl => ?_)
                    refine lv_goto (tgt := 41) hx hb dX8_halves_160 rfl ?_
                    exact ih41 (few, nI se, se + 1) (by (try dsimp only); exact absurd c_47 c_42) (by (try dsimp only); omega) _ _ _ hP hD hS (lv_sub hl [0, 2, 1, 5, 6, 7] rfl)
                  · refine lv_aload_n hx hb dX8_halves_146 rfl (lv_at hl 5 rfl) ?_
                    refine lv_iload hx hb dX8_halves_147 (lv_at hl 3 rfl) ?_
                    refine hs_ciM (va_runV (As := [.int (nI se)]) (rest := []) ⟨hx, hb, hml, hown, hts⟩ (gr_cutsOf l D k _ mo mo_st mo_at mo_isKept mo_pe mo_hm mo_draft mo_dp mo_dh mo_toldLines mo_highest mo_tape mo_tl mo_ps mo_fr mo_sort mo_value mo_ft mo_wrongAt mo_row mo_orderMany mo_fo mo_lightest mo_heaviest mo_before mo_justSum mo_toldSum mo_allWays mo_lanes mo_sizes mo_cells mo_torn mo_had u_11 c0 (nI se) (by first | exact e0a | exact e0) (by omega)) (cwV 1 hts gX8_halves_X8_cutsOf rfl rfl rfl ⟨rfl, hq_X8_cutsOf⟩ ⟨Nat.le_of_ble_eq_true rfl, Nat.le_of_ble_eq_true rfl⟩) (hs_preV hK hN (hs_subP (w := [_, _]) hP [0, 2] rfl) (hD.sub (ws' := [_, _]) [0, 2] (hs_upnd rfl) rfl) (ci := 7) (q0 := 0) rfl rfl) rfl rfl hl.1 rfl (lv_room (Nat.le_of_ble_eq_true rfl)) dX8_halves_149 ⟨Nat.le_of_ble_eq_true rfl, Nat.le_of_ble_eq_true rfl⟩) hP hD hS hA [false, true, false] [_] [_, _] rfl [0, 1] rfl [0, 1] (fun u_50 => [_, _]) (fun _ => rfl) (hs_upnd rfl) [false, true, false] (fun u_50 => [_, _, _]) (fun _ => rfl) (fun r_48 u_50 H locs hw_49 hP hD hS => ?_)
                    refine hs_topi (A_cuM (nI se) (c0 - 1)) hw_49 ?_
                    refine lv_goto (tgt := 156) hx hb dX8_halves_152 rfl ?_
                    refine lv_istore_n (lv' := [(3, .int (A_cuM (nI se) (c0 - 1))), (4, .int (nI se)), (7, .int (nI q)), (6, .int iz), (5, .int (nI se)), (0, .ref mo), (1, .int a), (2, .int what)]) hx hb dX8_halves_156 rfl hl (Nat.le_of_ble_eq_true rfl) rfl (fun ls hl => ?_)
                    refine lv_iinc (v := nI (se + 1)) (lv' := [(5, .int (nI (se + 1))), (3, .int (A_cuM (nI se) (c0 - 1))), (4, .int (nI se)), (7, .int (nI q)), (6, .int iz), (0, .ref mo), (1, .int a), (2, .int what)]) hx hb dX8_halves_157 hl (k := 4) rfl (nI_add (se) 1) (Nat.le_of_ble_eq_true rfl) rfl (fun ls hl => ?_)
                    refine lv_goto (tgt := 41) hx hb dX8_halves_160 rfl ?_
                    exact ih41 (A_cuM (nI se) (c0 - 1), nI se, se + 1) (by (try dsimp only); exact hs_fwy hJo (by rw [← show q = mo_pe by omega]; exact hs_nb (fun t9 => c_42 (hI.2.trans t9)))) (by (try dsimp only); omega) _ _ _ hP hD hS (lv_sub hl [0, 2, 1, 5, 6, 7] rfl)
              · have nc_41 : ¬ mo_pe ≤ q := fun hq9 => c_41 ((nI_leI (a := mo_pe) (b := q) (by omega) (by omega)).mpr hq9)
                refine lv_iload hx hb dX8_halves_79 (lv_at hl 1 rfl) ?_
                refine lv_if_eq (tgt := 118) hx hb dX8_halves_81 rfl (fun c_51 => ?_) (fun c_51 => ?_)
                · refine lv_iconst (v := 0) hx hb dX8_halves_118 hki_0 ?_
                  refine lv_istore (lv' := [(6, .int 0), (7, .int (nI q)), (5, .int (nI se)), (4, .int fo), (3, .int few), (0, .ref mo), (1, .int a), (2, .int what)]) hx hb dX8_halves_119 hl (Nat.le_of_ble_eq_true rfl) rfl (fun ls hl => ?_)
                  refine lv_iinc (v := nI (q + 1)) (lv' := [(7, .int (nI (q + 1))), (6, .int 0), (5, .int (nI se)), (4, .int fo), (3, .int few), (0, .ref mo), (1, .int a), (2, .int what)]) hx hb dX8_halves_121 hl (k := 1) rfl (nI_add (q) 1) (Nat.le_of_ble_eq_true rfl) rfl (fun ls hl => ?_)
                  refine lv_goto (tgt := 70) hx hb dX8_halves_124 rfl ?_
                  exact ih70 (0, q + 1) (by (try dsimp only); exact ⟨by omega, by rw [A_jsM, ← Bool.and_assoc, hs_n0 (hI.2.symm.trans c_51), Bool.false_and]; rfl⟩) (by (try dsimp only); omega) _ _ _ hP hD hS (lv_sub hl [0, 1, 2, 3, 4, 5, 6, 7] rfl)
                · refine lv_iload_n hx hb dX8_halves_84 rfl (lv_at hl 6 rfl) ?_
                  refine lv_iload hx hb dX8_halves_85 (lv_at hl 0 rfl) ?_
                  refine lv_ishr hx hb dX8_halves_87 ?_
                  refine lv_iconst (v := 1) hx hb dX8_halves_88 hki_1 ?_
                  refine lv_iand hx hb dX8_halves_89 ?_
                  refine lv_if_eq (tgt := 114) hx hb dX8_halves_90 rfl (fun c_52 => ?_) (fun c_52 => ?_)
                  · refine lv_iconst (v := 1) hx hb dX8_halves_114 hki_1 ?_
                    refine lv_goto (tgt := 119) hx hb dX8_halves_115 rfl ?_
                    refine lv_istore (lv' := [(6, .int 1), (7, .int (nI q)), (5, .int (nI se)), (4, .int fo), (3, .int few), (0, .ref mo), (1, .int a), (2, .int what)]) hx hb dX8_halves_119 hl (Nat.le_of_ble_eq_true rfl) rfl (fun ls hl => ?_)
                    refine lv_iinc (v := nI (q + 1)) (lv' := [(7, .int (nI (q + 1))), (6, .int 1), (5, .int (nI se)), (4, .int fo), (3, .int few), (0, .ref mo), (1, .int a), (2, .int what)]) hx hb dX8_halves_121 hl (k := 1) rfl (nI_add (q) 1) (Nat.le_of_ble_eq_true rfl) rfl (fun ls hl => ?_)
                    refine lv_goto (tgt := 70) hx hb dX8_halves_124 rfl ?_
                    exact ih70 (1, q + 1) (by (try dsimp only); exact ⟨by omega, by rw [A_jsM, ← Bool.and_assoc, hs_nb (fun t9 => c_51 (hI.2.trans t9)), decide_eq_true c_52]; rfl⟩) (by (try dsimp only); omega) _ _ _ hP hD hS (lv_sub hl [0, 1, 2, 3, 4, 5, 6, 7] rfl)
                  · refine lv_aload_n hx hb dX8_halves_93 rfl (lv_at hl 5 rfl) ?_
                    refine lv_iload hx hb dX8_halves_94 (lv_at hl 0 rfl) ?_
                    refine lv_iload hx hb dX8_halves_96 (lv_at hl 2 rfl) ?_
                    refine hs_ciM (va_runV (As := [.int (nI q), .int (nI se)]) (rest := []) ⟨hx, hb, hml, hown, hts⟩ (gr_moreLeft l D k _ mo mo_st mo_at mo_isKept mo_pe mo_hm mo_draft mo_dp mo_dh mo_toldLines mo_highest mo_tape mo_tl mo_ps mo_fr mo_sort mo_value mo_ft mo_wrongAt mo_row mo_orderMany mo_fo mo_lightest mo_heaviest mo_before mo_justSum mo_toldSum mo_allWays mo_lanes mo_sizes mo_cells mo_torn mo_had u_11 c0 q (nI se) (by first | exact e0a | exact e0) (by omega) (by omega)) (cwV 2 hts gX8_halves_X8_moreLeft rfl rfl rfl ⟨rfl, hq_X8_moreLeft⟩ ⟨Nat.le_of_ble_eq_true rfl, Nat.le_of_ble_eq_true rfl⟩) (hs_preV hK hN (hs_subP (w := [_, _]) hP [0, 2] rfl) (hD.sub (ws' := [_, _]) [0, 2] (hs_upnd rfl) rfl) (ci := 7) (q0 := 0) rfl rfl) rfl rfl hl.1 rfl (lv_room (Nat.le_of_ble_eq_true rfl)) dX8_halves_98 ⟨Nat.le_of_ble_eq_true rfl, Nat.le_of_ble_eq_true rfl⟩) hP hD hS hA [false, true, false] [_] [_, _] rfl [0, 1] rfl [0, 1] (fun u_55 => [_, _]) (fun _ => rfl) (hs_upnd rfl) [false, true, false] (fun u_55 => [_, _, _]) (fun _ => rfl) (fun r_53 u_55 H locs hw_54 hP hD hS => ?_)
                    refine hs_topi (A_ml (A_fm u_11 q) (nI se) c0) hw_54 ?_
                    refine hs_pi (va_runS (As := [.int (A_ml (A_fm u_11 q) (nI se) c0)]) (rest := []) ⟨hx, hb, hml, hown, hts⟩ (gr_sizeOf l D k _ (A_ml (A_fm u_11 q) (nI se) c0)) (va_cwS 1 hts gX8_halves_X8_sizeOf rfl rfl rfl hq_X8_sizeOf ⟨Nat.le_of_ble_eq_true rfl, Nat.le_of_ble_eq_true rfl⟩) (hs_preS hK hN (hs_subP (w := []) hP [] rfl) (hD.sub (ws' := []) [] rfl rfl)) rfl rfl hl.1 rfl (lv_room (Nat.le_of_ble_eq_true rfl)) dX8_halves_101 ⟨Nat.le_of_ble_eq_true rfl, Nat.le_of_ble_eq_true rfl⟩) hP hD hS hA (fun r_56 u_58 H locs hw_57 hP hS => ?_)
                    refine hs_topi (A_sz (A_ml (A_fm u_11 q) (nI se) c0)) hw_57 ?_
                    refine lv_aload_n hx hb dX8_halves_104 rfl (lv_at hl 5 rfl) ?_
                    refine va_get (D := D) (ci := 7) (v := .ref mo_at) (C := RX8) (T := TX8) (N := 32) hx hb hts hiX8 hown hK hP 0 rfl rfl 1 (Nat.le_of_ble_eq_true rfl) fl13 (fun _ h9 => h9) rfl dX8_halves_105 ?_
                    refine lv_bipush (v := 13) hx hb dX8_halves_108 hkb_13 ?_
                    refine va_iald hx hb hK hP 2 0 rfl rfl (hs_in (by decide)) dX8_halves_110 ?_
                    refine hs_topi (u_11 13) (by rfl) ?_
                    refine lv_icmp_gt (tgt := 118) hx hb dX8_halves_111 rfl (fun c_59 => ?_) (fun c_59 => ?_)
                    · refine lv_iconst (v := 0) hx hb dX8_halves_118 hki_0 ?_
                      refine lv_istore (lv' := [(6, .int 0), (7, .int (nI q)), (5, .int (nI se)), (4, .int fo), (3, .int few), (0, .ref mo), (1, .int a), (2, .int what)]) hx hb dX8_halves_119 hl (Nat.le_of_ble_eq_true rfl) rfl (fun ls hl => ?_)
                      refine lv_iinc (v := nI (q + 1)) (lv' := [(7, .int (nI (q + 1))), (6, .int 0), (5, .int (nI se)), (4, .int fo), (3, .int few), (0, .ref mo), (1, .int a), (2, .int what)]) hx hb dX8_halves_121 hl (k := 1) rfl (nI_add (q) 1) (Nat.le_of_ble_eq_true rfl) rfl (fun ls hl => ?_)
                      refine lv_goto (tgt := 70) hx hb dX8_halves_124 rfl ?_
                      exact ih70 (0, q + 1) (by (try dsimp only); exact ⟨by omega, by rw [A_jsM, ← Bool.and_assoc, hs_nb (fun t9 => c_51 (hI.2.trans t9)), decide_eq_false c_52, ← A_ml_congr c0 (fun x hx => A_fm_congr (show q < 4 by omega) (fun x hx => hw_10 x (by omega)) x (by omega)), ← hw_10 13 (by omega), decide_eq_false (Int32.not_le.mpr c_59)]; rfl⟩) (by (try dsimp only); omega) _ _ _ hP hD hS (lv_sub hl [0, 1, 2, 3, 4, 5, 6, 7] rfl)
                    · refine lv_iconst (v := 1) hx hb dX8_halves_114 hki_1 ?_
                      refine lv_goto (tgt := 119) hx hb dX8_halves_115 rfl ?_
                      refine lv_istore (lv' := [(6, .int 1), (7, .int (nI q)), (5, .int (nI se)), (4, .int fo), (3, .int few), (0, .ref mo), (1, .int a), (2, .int what)]) hx hb dX8_halves_119 hl (Nat.le_of_ble_eq_true rfl) rfl (fun ls hl => ?_)
                      refine lv_iinc (v := nI (q + 1)) (lv' := [(7, .int (nI (q + 1))), (6, .int 1), (5, .int (nI se)), (4, .int fo), (3, .int few), (0, .ref mo), (1, .int a), (2, .int what)]) hx hb dX8_halves_121 hl (k := 1) rfl (nI_add (q) 1) (Nat.le_of_ble_eq_true rfl) rfl (fun ls hl => ?_)
                      refine lv_goto (tgt := 70) hx hb dX8_halves_124 rfl ?_
                      exact ih70 (1, q + 1) (by (try dsimp only); exact ⟨by omega, by rw [A_jsM, ← Bool.and_assoc, hs_nb (fun t9 => c_51 (hI.2.trans t9)), decide_eq_false c_52, ← A_ml_congr c0 (fun x hx => A_fm_congr (show q < 4 by omega) (fun x hx => hw_10 x (by omega)) x (by omega)), ← hw_10 13 (by omega), decide_eq_true (Int32.not_lt.mp c_59)]; rfl⟩) (by (try dsimp only); omega) _ _ _ hP hD hS (lv_sub hl [0, 1, 2, 3, 4, 5, 6, 7] rfl)
            · (try dsimp only); exact ⟨Nat.zero_le _, by rw [decide_eq_true (Int32.not_le.mp c_21)]; rfl⟩
      · (try dsimp only); exact ⟨Nat.zero_le _, rfl, rfl⟩
    · refine lv_iconst (v := (-1)) hx hb dX8_halves_25 hki_m1 ?_
      exact hs_iret hx hb hr hlocks hK hP hD hS af [0, 1, 2] rfl (hs_upnd rfl) dX8_halves_26 ((by rw [A_haM, if_neg (by rw [hs_n0 c_8, Bool.and_false]; decide)]))
