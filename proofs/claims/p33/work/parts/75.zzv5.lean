set_option maxHeartbeats 4000000 in
set_option maxRecDepth 100000 in
theorem gpf_kinds (l : Launch) (D : va_G) (k : Nat → ClassId) (sz : Nat) (h : Nat) (h_now : Nat) (h_trial : Nat) (h_images : Nat) (h_imageThere : Nat) (h_teller : Nat) (h_ranks : Nat) (h_court : Nat) (h_sheets : Nat) (h_lf : Int32) (h_lt : Int32) (n_a : Nat → Nat) (n_N : Nat → Nat) (n_J : Nat → Int32) (n_F : Nat → Nat → Int32) (tr_a : Nat → Nat) (tr_N : Nat → Nat) (tr_J : Nat → Int32) (tr_F : Nat → Nat → Int32) (i : Int32) (hN0 : thN n_N) (hF : thF n_N n_F) (h2 : 2 ≤ n_N 0) : MI l yX7_kinds wsX7_kinds ({ frames := 4, cells := 0, slots := 0, locals := 94 }) D k [.ref h, .int i] [oq6 h h_now h_trial h_images h_imageThere h_teller h_ranks h_court h_sheets h_lf h_lt, oqT h_now n_a n_N n_J, oqF0 k n_a n_F, oqF1 k n_a n_F, oqF2 k n_a n_F, oqF3 k n_a n_F, oqF4 k n_a n_F, oqF5 k n_a n_F, oqF6 k n_a n_F, oqT h_trial tr_a tr_N tr_J, oqF0 k tr_a tr_F, oqF1 k tr_a tr_F, oqF2 k tr_a tr_F, oqF3 k tr_a tr_F, oqF4 k tr_a tr_F, oqF5 k tr_a tr_F, oqF6 k tr_a tr_F] sz (fun (r : Int32) (u : (Nat → Nat) × (Nat → Int32) × (Nat → Nat → Int32)) => r = A_kinC n_N n_J n_F i) (fun (u : (Nat → Nat) × (Nat → Int32) × (Nat → Nat → Int32)) => [oq6 h h_now h_trial h_images h_imageThere h_teller h_ranks h_court h_sheets h_lf h_lt, oqT h_now n_a n_N n_J, oqF0 k n_a n_F, oqF1 k n_a n_F, oqF2 k n_a n_F, oqF3 k n_a n_F, oqF4 k n_a n_F, oqF5 k n_a n_F, oqF6 k n_a n_F, oqT h_trial tr_a u.1 u.2.1, oqF0 k tr_a u.2.2, oqF1 k tr_a u.2.2, oqF2 k tr_a u.2.2, oqF3 k tr_a u.2.2, oqF4 k tr_a u.2.2, oqF5 k tr_a u.2.2, oqF6 k tr_a u.2.2]) := by
  refine Met.ofW (cc := cX7_kinds) (maxL := 4) (ret := (some .int)) hpn_X7 rfl ?_
  intro p e s m args below meth c s₁ B hml hv
  obtain ⟨rfl, hsz, hP, hK, hD0, hN⟩ := hv
  have hx := B.exec
  have hb := B.bytes
  have hr := B.returns
  have hlocks := B.notSynchronized
  have hts := atoms_spec (ws := wsX7_kinds) B.pre
  have hown := findClass_of_methodNamed B.named
  have hown : s.vm.findClass RX7 = some m.cls := hown
  have hiX6 : ∀ w ∈ u_ws RX6 TX6 15, w ∈ wsX7_kinds := fun w9 hw9 => List.mem_cons_of_mem _ (igX6 w9 hw9)
  have hiX7 : ∀ w ∈ u_ws RX7 TX7 10, w ∈ wsX7_kinds := fun w9 hw9 => List.mem_cons_of_mem _ (igX7 w9 hw9)
  have fl10 := hts (.fieldLink RX7 10 "HalfScales" "now" "LHalfScales$Thing;") (List.mem_cons_of_mem _ (hs_inG 1 215 rfl rfl))
  have fl16 := hts (.fieldLink RX7 16 "HalfScales" "trial" "LHalfScales$Thing;") (List.mem_cons_of_mem _ (hs_inG 1 216 rfl rfl))
  have fl128 := hts (.fieldLink RX7 128 "HalfScales$Thing" "kindOf" "[I") (List.mem_cons_of_mem _ (hs_inG 1 39 rfl rfl))
  have hNn := hN0
  obtain ⟨I0, I1, ⟨I2, I2b⟩, I3, I4⟩ := hN0
  subst hsz
  have hD := hD0.self (sz := s.heap.size)
  generalize hAe : va_A [oq6 h h_now h_trial h_images h_imageThere h_teller h_ranks h_court h_sheets h_lf h_lt, oqT h_now n_a n_N n_J, oqF0 k n_a n_F, oqF1 k n_a n_F, oqF2 k n_a n_F, oqF3 k n_a n_F, oqF4 k n_a n_F, oqF5 k n_a n_F, oqF6 k n_a n_F, oqT h_trial tr_a tr_N tr_J, oqF0 k tr_a tr_F, oqF1 k tr_a tr_F, oqF2 k tr_a tr_F, oqF3 k tr_a tr_F, oqF4 k tr_a tr_F, oqF5 k tr_a tr_F, oqF6 k tr_a tr_F] s.heap.size = A at hD ⊢
  have hA : ∀ q : Nat, s.heap.size ≤ q → A q := fun q h => by rw [← hAe]; exact Or.inr h
  have hS : va_S A s.heap s.heap [] := va_S.rf
  have hl := lv_entry ([.ref h, .int i]) (n := 4) (Nat.le_of_ble_eq_true rfl)
  rw [lg_entry_eq]
  generalize (lg_sl ([.ref h, .int i]) ++ List.replicate (4 - (lg_sl ([.ref h, .int i])).length) Slot.unset).toArray = ls at hl ⊢
  have hl : lv_has ls 4 [(0, .ref h), (1, .int i)] := hl
  have hP : va_P D vwCl [oq6 h h_now h_trial h_images h_imageThere h_teller h_ranks h_court h_sheets h_lf h_lt, oqT h_now n_a n_N n_J, oqF0 k n_a n_F, oqF1 k n_a n_F, oqF2 k n_a n_F, oqF3 k n_a n_F, oqF4 k n_a n_F, oqF5 k n_a n_F, oqF6 k n_a n_F, oqT h_trial tr_a tr_N tr_J, oqF0 k tr_a tr_F, oqF1 k tr_a tr_F, oqF2 k tr_a tr_F, oqF3 k tr_a tr_F, oqF4 k tr_a tr_F, oqF5 k tr_a tr_F, oqF6 k tr_a tr_F] s.heap := hP
  refine lv_aload_n hx hb dX7_kinds_0 rfl (lv_at hl 0 rfl) ?_
  refine va_get (D := D) (ci := 6) (v := .ref h_now) (C := RX7) (T := TX7) (N := 10) hx hb hts hiX7 hown hK hP 0 rfl rfl 0 (Nat.le_of_ble_eq_true rfl) fl10 (fun _ h9 => h9) rfl dX7_kinds_1 ?_
  refine lv_iload_n hx hb dX7_kinds_4 rfl (lv_at hl 1 rfl) ?_
  refine hs_ciM (va_runV (As := [.int i]) (rest := []) ⟨hx, hb, hml, hown, hts⟩ (g_isPerson l D k _ h_now n_a n_N n_J i (by first | assumption | exact ⟨by first | omega | (dsimp; omega), by first | omega | (dsimp; omega), ⟨by first | omega | (dsimp; omega), by first | omega | (dsimp; omega)⟩, by first | omega | (dsimp; omega), by first | omega | (dsimp; omega)⟩)) (cwV 1 hts gX7_kinds_X6_isPerson rfl rfl rfl ⟨rfl, hq_X6_isPerson⟩ ⟨Nat.le_of_ble_eq_true rfl, Nat.le_of_ble_eq_true rfl⟩) (hs_preV hK hN (hs_subP (w := [_]) hP [1] rfl) (hD.sub (ws' := [_]) [1] (hs_upnd rfl) rfl) (ci := 5) (q0 := 0) rfl rfl) rfl rfl hl.1 rfl (lv_room (Nat.le_of_ble_eq_true rfl)) dX7_kinds_5 ⟨Nat.le_of_ble_eq_true rfl, Nat.le_of_ble_eq_true rfl⟩) hP hD hS hA [true, false, true, true, true, true, true, true, true, true, true, true, true, true, true, true, true] [_, _, _, _, _, _, _, _, _, _, _, _, _, _, _, _] [_] rfl [0] rfl [0] (fun u_3 => [_]) (fun _ => rfl) (hs_upnd rfl) [true, false, true, true, true, true, true, true, true, true, true, true, true, true, true, true, true] (fun u_3 => [_, _, _, _, _, _, _, _, _, _, _, _, _, _, _, _, _]) (fun _ => rfl) (fun r_1 u_3 H locs hw_2 hP hD hS => ?_)
  refine hs_topi (hsb (hslt i (n_N 1))) hw_2 ?_
  refine lv_if_ne (tgt := 13) hx hb dX7_kinds_8 rfl (fun c_4 => ?_) (fun c_4 => ?_)
  · obtain ⟨ji, hji, rfl⟩ := hslt_ex (hs_nb c_4)
    refine lv_aload_n hx hb dX7_kinds_13 rfl (lv_at hl 0 rfl) ?_
    refine va_get (D := D) (ci := 6) (v := .ref h_trial) (C := RX7) (T := TX7) (N := 10) hx hb hts hiX7 hown hK hP 0 rfl rfl 1 (Nat.le_of_ble_eq_true rfl) fl16 (fun _ h9 => h9) rfl dX7_kinds_14 ?_
    refine lv_aload_n hx hb dX7_kinds_17 rfl (lv_at hl 0 rfl) ?_
    refine va_get (D := D) (ci := 6) (v := .ref h_now) (C := RX7) (T := TX7) (N := 10) hx hb hts hiX7 hown hK hP 0 rfl rfl 0 (Nat.le_of_ble_eq_true rfl) fl10 (fun _ h9 => h9) rfl dX7_kinds_18 ?_
    refine hs_cvM (va_runV (As := [.ref h_now]) (rest := []) ⟨hx, hb, hml, hown, hts⟩ (g_copyFrom l D k _ h_trial tr_a tr_N tr_J tr_F h_now n_a n_N n_J n_F) (cwV 1 hts gX7_kinds_X6_copyFrom rfl rfl rfl ⟨rfl, hq_X6_copyFrom⟩ ⟨Nat.le_of_ble_eq_true rfl, Nat.le_of_ble_eq_true rfl⟩) (hs_preV hK hN (hs_subP (w := [_, _, _, _, _, _, _, _, _, _, _, _, _, _, _, _]) hP [9, 10, 11, 12, 13, 14, 15, 16, 1, 2, 3, 4, 5, 6, 7, 8] rfl) (hD.sub (ws' := [_, _, _, _, _, _, _, _, _, _, _, _, _, _, _, _]) [9, 10, 11, 12, 13, 14, 15, 16, 1, 2, 3, 4, 5, 6, 7, 8] (by decide +kernel) rfl) (ci := 5) (q0 := 0) rfl rfl) rfl rfl hl.1 rfl (lv_room (Nat.le_of_ble_eq_true rfl)) dX7_kinds_21 ⟨Nat.le_of_ble_eq_true rfl, Nat.le_of_ble_eq_true rfl⟩) hP hD hS hA [true, false, false, false, false, false, false, false, false, false, false, false, false, false, false, false, false] [_] [_, _, _, _, _, _, _, _, _, _, _, _, _, _, _, _] rfl [8, 9, 10, 11, 12, 13, 14, 15, 0, 1, 2, 3, 4, 5, 6, 7] rfl [8, 9, 10, 11, 12, 13, 14, 15, 0, 1, 2, 3, 4, 5, 6, 7] (fun u_7 => [_, _, _, _, _, _, _, _, _, _, _, _, _, _, _, _]) (fun _ => rfl) (by decide +kernel) [true, false, false, false, false, false, false, false, false, false, false, false, false, false, false, false, false] (fun u_7 => [_, _, _, _, _, _, _, _, _, _, _, _, _, _, _, _, _]) (fun _ => rfl) (fun u_7 H locs hw_6 hP hD hS => ?_)
    have hw_6 : ∀ q i, i < hs7 q → u_7 q i = n_F q i := hw_6
    refine lv_iconst (v := 0) hx hb dX7_kinds_24 hki_0 ?_
    refine lv_istore_n (lv' := [(2, .int 0), (0, .ref h), (1, .int (nI ji))]) hx hb dX7_kinds_25 rfl hl (Nat.le_of_ble_eq_true rfl) rfl (fun ls hl => ?_)
    refine lv_iconst (v := 0) hx hb dX7_kinds_26 hki_0 ?_
    refine lv_istore_n (lv' := [(3, .int 0), (2, .int 0), (0, .ref h), (1, .int (nI ji))]) hx hb dX7_kinds_27 rfl hl (Nat.le_of_ble_eq_true rfl) rfl (fun ls hl => ?_)
    refine hs_while (σ := Int32 × Nat × (Nat → Int32)) (fun x => x.2.1 ≤ 4 ∧ x.1 = A_btP (A_kiP n_N n_J n_F ji) x.2.1 ∧ ∀ q, q < 4 → ¬ q = ji → x.2.2 q = n_F 1 q) (fun x => 4 - x.2.1) (fun x => [oq6 h h_now h_trial h_images h_imageThere h_teller h_ranks h_court h_sheets h_lf h_lt, oqT h_now n_a n_N n_J, oqF0 k n_a n_F, oqF1 k n_a n_F, oqF2 k n_a n_F, oqF3 k n_a n_F, oqF4 k n_a n_F, oqF5 k n_a n_F, oqF6 k n_a n_F, oqT h_trial tr_a n_N n_J, oqF0 k tr_a u_7, oqI k (tr_a 1) 4 ((x.2.2)), oqF2 k tr_a u_7, oqF3 k tr_a u_7, oqF4 k tr_a u_7, oqF5 k tr_a u_7, oqF6 k tr_a u_7]) (fun x => [(3, .int (nI (x.2.1))), (2, .int (x.1)), (0, .ref h), (1, .int (nI ji))]) ?_ (0, 0, u_7 1) ?_ hP hD hS hl
    · intro x hI ih28 H locs ls hP hD hS hl
      obtain ⟨fo, v, wf⟩ := x
      try dsimp only at hI
      have hP : va_P D vwCl [_, _, _, _, _, _, _, _, _, _, _, oqI k (tr_a 1) 4 (wf), _, _, _, _, _] H := hP
      have hD : va_D A [_, _, _, _, _, _, _, _, _, _, _, oqI k (tr_a 1) 4 (wf), _, _, _, _, _] := hD
      have hl : lv_has ls 4 [(3, .int (nI v)), (2, .int fo), (0, .ref h), (1, .int (nI ji))] := hl
      refine lv_iload_n hx hb dX7_kinds_28 rfl (lv_at hl 0 rfl) ?_
      refine lv_iconst (v := 3) hx hb dX7_kinds_29 hki_3 ?_
      refine lv_icmp_gt (tgt := 65) hx hb dX7_kinds_30 rfl (fun c_8 => ?_) (fun c_8 => ?_)
      · have nc_8 : 3 < v := (nI_ltI (a := 3) (b := v) (by omega) (by omega)).mp c_8
        refine lv_iload_n hx hb dX7_kinds_65 rfl (lv_at hl 1 rfl) ?_
        exact hs_iret hx hb hr hlocks hK hP hD hS (n_N, n_J, (fun j => ([u_7 0, wf, u_7 2, u_7 3, u_7 4, u_7 5, u_7 6] : List (Nat → Int32)).getD j hsz)) [0, 1, 2, 3, 4, 5, 6, 7, 8, 9, 10, 11, 12, 13, 14, 15, 16] rfl (hs_upnd rfl) dX7_kinds_66 ((by rw [A_kinC, if_pos (hs_nb c_4), nI_clamp (by omega), hI.2.1, show v = 4 by omega]))
      · have nc_8 : ¬ 3 < v := fun hq9 => c_8 ((nI_ltI (a := 3) (b := v) (by omega) (by omega)).mpr hq9)
        refine lv_aload_n hx hb dX7_kinds_33 rfl (lv_at hl 2 rfl) ?_
        refine va_get (D := D) (ci := 6) (v := .ref h_trial) (C := RX7) (T := TX7) (N := 10) hx hb hts hiX7 hown hK hP 0 rfl rfl 1 (Nat.le_of_ble_eq_true rfl) fl16 (fun _ h9 => h9) rfl dX7_kinds_34 ?_
        refine va_get (D := D) (ci := 5) (v := .ref (tr_a 1)) (C := RX6) (T := TX6) (N := 15) hx hb hts hiX6 hown hK hP 9 rfl rfl 1 (Nat.le_of_ble_eq_true rfl) fl128 (fun _ h9 => h9) rfl dX7_kinds_37 ?_
        refine lv_iload_n hx hb dX7_kinds_40 rfl (lv_at hl 3 rfl) ?_
        refine lv_iload_n hx hb dX7_kinds_41 rfl (lv_at hl 0 rfl) ?_
        refine va_iast hx hb hK hP hD hS 11 0 rfl rfl (vp_in_nI (show ji < 4 by omega) (by decide)) dX7_kinds_42 (fun H locs hP hD hS => ?_)
        have hE : upd wf ((nI ji).toNatClampNeg) (nI v) = upd wf ji (nI v) := (by rw [nI_clamp (by omega)])
        have hP : va_P D vwCl [_, _, _, _, _, _, _, _, _, _, _, oqI k (tr_a 1) 4 (upd wf ((nI ji).toNatClampNeg) (nI v)), _, _, _, _, _] H := hP
        have hD : va_D A [_, _, _, _, _, _, _, _, _, _, _, oqI k (tr_a 1) 4 (upd wf ((nI ji).toNatClampNeg) (nI v)), _, _, _, _, _] := hD
        rw [hE] at hP hD
        refine lv_aload_n hx hb dX7_kinds_43 rfl (lv_at hl 2 rfl) ?_
        refine va_get (D := D) (ci := 6) (v := .ref h_trial) (C := RX7) (T := TX7) (N := 10) hx hb hts hiX7 hown hK hP 0 rfl rfl 1 (Nat.le_of_ble_eq_true rfl) fl16 (fun _ h9 => h9) rfl dX7_kinds_44 ?_
        refine hs_ciM (va_runV (As := []) (rest := []) ⟨hx, hb, hml, hown, hts⟩ (gf_isAsSeen l D k _ h_trial tr_a n_N n_J (fun j => ([u_7 0, upd wf ji (nI v), u_7 2, u_7 3, u_7 4, u_7 5, u_7 6] : List (Nat → Int32)).getD j hsz) (by first | assumption | exact ⟨by first | omega | (dsimp; omega), by first | omega | (dsimp; omega), ⟨by first | omega | (dsimp; omega), by first | omega | (dsimp; omega)⟩, by first | omega | (dsimp; omega), by first | omega | (dsimp; omega)⟩) ⟨fun i hi => by show vp_in (u_7 3 i) 5; rw [hw_6 3 i (show i < 8 by omega)]; exact hF.1 i hi, fun i hi => by show vp_in (u_7 4 i) 4; rw [hw_6 4 i (show i < 6 by omega)]; exact hF.2 i hi⟩) (cwV 0 hts gX7_kinds_X6_isAsSeen rfl rfl rfl ⟨rfl, hq_X6_isAsSeen⟩ ⟨Nat.le_of_ble_eq_true rfl, Nat.le_of_ble_eq_true rfl⟩) (hs_preV hK hN (hs_subP (w := [_, _, _, _, _, _, _, _]) hP [9, 10, 11, 12, 13, 14, 15, 16] rfl) (hD.sub (ws' := [_, _, _, _, _, _, _, _]) [9, 10, 11, 12, 13, 14, 15, 16] (hs_upnd rfl) rfl) (ci := 5) (q0 := 0) rfl rfl) rfl rfl hl.1 rfl (lv_room (Nat.le_of_ble_eq_true rfl)) dX7_kinds_47 ⟨Nat.le_of_ble_eq_true rfl, Nat.le_of_ble_eq_true rfl⟩) hP hD hS hA [true, true, true, true, true, true, true, true, true, false, false, false, false, false, false, false, false] [_, _, _, _, _, _, _, _, _] [_, _, _, _, _, _, _, _] rfl [0, 1, 2, 3, 4, 5, 6, 7] rfl [0, 1, 2, 3, 4, 5, 6, 7] (fun u_11 => [_, _, _, _, _, _, _, _]) (fun _ => rfl) (hs_upnd rfl) [true, true, true, true, true, true, true, true, true, false, false, false, false, false, false, false, false] (fun u_11 => [_, _, _, _, _, _, _, _, _, _, _, _, _, _, _, _, _]) (fun _ => rfl) (fun r_9 u_11 H locs hw_10 hP hD hS => ?_)
        refine hs_topi (hsb (A_asC n_N n_J (fun j => ([u_7 0, upd wf ji (nI v), u_7 2, u_7 3, u_7 4, u_7 5, u_7 6] : List (Nat → Int32)).getD j hsz) (n_N 4))) hw_10 ?_
        refine lv_if_eq (tgt := 59) hx hb dX7_kinds_50 rfl (fun c_12 => ?_) (fun c_12 => ?_)
        · refine lv_iinc (v := nI (v + 1)) (lv' := [(3, .int (nI (v + 1))), (2, .int fo), (0, .ref h), (1, .int (nI ji))]) hx hb dX7_kinds_59 hl (k := 0) rfl (nI_add (v) 1) (Nat.le_of_ble_eq_true rfl) rfl (fun ls hl => ?_)
          refine lv_goto (tgt := 28) hx hb dX7_kinds_62 rfl ?_
          exact ih28 (fo, v + 1, (fun j => ([u_7 0, upd wf ji (nI v), u_7 2, u_7 3, u_7 4, u_7 5, u_7 6] : List (Nat → Int32)).getD j hsz) 1) (by (try dsimp only); exact ⟨by omega, by rw [A_btP, if_neg (show ¬ A_kiP n_N n_J n_F ji v = true from fun t9 => hs_tf t9 ((A_asC_congr (F := fS1 n_F (upd (n_F 1) ji (nI v))) (show n_N 0 ≤ 8 by omega) (A_trG1 (fun q i h9 => hw_6 q i h9) hI.2.2) (n_N 4) (by omega) (fun i hi => hF.2 i (by omega))).symm.trans (hs_n0 c_12)))]; exact hI.2.1, fun q h1 h2 => (show upd wf ji (nI v) q = n_F 1 q from by rw [hs_un h2]; exact hI.2.2 q h1 h2)⟩) (by (try dsimp only); omega) _ _ _ hP hD hS (lv_sub hl [0, 1, 2, 3] rfl)
        · refine lv_iload_n hx hb dX7_kinds_53 rfl (lv_at hl 1 rfl) ?_
          refine lv_iconst (v := 1) hx hb dX7_kinds_54 hki_1 ?_
          refine lv_iload_n hx hb dX7_kinds_55 rfl (lv_at hl 0 rfl) ?_
          refine lv_ishl hx hb dX7_kinds_56 ?_
          refine lv_ior hx hb dX7_kinds_57 ?_
          refine lv_istore_n (lv' := [(2, .int (fo ||| (1 <<< ((nI v) &&& 31)))), (3, .int (nI v)), (0, .ref h), (1, .int (nI ji))]) hx hb dX7_kinds_58 rfl hl (Nat.le_of_ble_eq_true rfl) rfl (fun ls hl => ?_)
          refine lv_iinc (v := nI (v + 1)) (lv' := [(3, .int (nI (v + 1))), (2, .int (fo ||| (1 <<< ((nI v) &&& 31)))), (0, .ref h), (1, .int (nI ji))]) hx hb dX7_kinds_59 hl (k := 1) rfl (nI_add (v) 1) (Nat.le_of_ble_eq_true rfl) rfl (fun ls hl => ?_)
          refine lv_goto (tgt := 28) hx hb dX7_kinds_62 rfl ?_
          exact ih28 (fo ||| (1 <<< ((nI v) &&& 31)), v + 1, (fun j => ([u_7 0, upd wf ji (nI v), u_7 2, u_7 3, u_7 4, u_7 5, u_7 6] : List (Nat → Int32)).getD j hsz) 1) (by (try dsimp only); exact ⟨by omega, by rw [A_btP, if_pos (show A_kiP n_N n_J n_F ji v = true from (A_asC_congr (F := fS1 n_F (upd (n_F 1) ji (nI v))) (show n_N 0 ≤ 8 by omega) (A_trG1 (fun q i h9 => hw_6 q i h9) hI.2.2) (n_N 4) (by omega) (fun i hi => hF.2 i (by omega))).symm.trans (hs_nb c_12)), hI.2.1], fun q h1 h2 => (show upd wf ji (nI v) q = n_F 1 q from by rw [hs_un h2]; exact hI.2.2 q h1 h2)⟩) (by (try dsimp only); omega) _ _ _ hP hD hS (lv_sub hl [0, 1, 2, 3] rfl)
    · (try dsimp only); exact ⟨Nat.zero_le _, rfl, fun q h1 h2 => hw_6 1 q h1⟩
  · refine lv_iconst (v := (-1)) hx hb dX7_kinds_11 hki_m1 ?_
    exact hs_iret hx hb hr hlocks hK hP hD hS (tr_N, tr_J, (fun j => ([tr_F 0, tr_F 1, tr_F 2, tr_F 3, tr_F 4, tr_F 5, tr_F 6] : List (Nat → Int32)).getD j hsz)) [0, 1, 2, 3, 4, 5, 6, 7, 8, 9, 10, 11, 12, 13, 14, 15, 16] rfl (hs_upnd rfl) dX7_kinds_12 ((by rw [A_kinC, if_neg (by rw [hs_n0 c_4]; decide)]))

set_option maxHeartbeats 4000000 in
set_option maxRecDepth 100000 in
theorem gqf_kinds (l : Launch) (D : va_G) (k : Nat → ClassId) (sz : Nat) (mo : Nat) (mo_st : Nat) (mo_at : Nat) (mo_isKept : Nat) (mo_pe : Nat) (mo_hm : Nat) (mo_draft : Nat) (mo_dp : Nat) (mo_dh : Nat) (mo_toldLines : Int32) (mo_highest : Int32) (mo_tape : Nat) (mo_tl : Nat) (mo_ps : Nat) (mo_fr : Nat) (mo_sort : Int32) (mo_value : Int32) (mo_ft : Nat) (mo_wrongAt : Int32) (mo_row : Nat) (mo_orderMany : Int32) (mo_fo : Nat) (mo_lightest : Int32) (mo_heaviest : Int32) (mo_before : Nat) (mo_justSum : Int64) (mo_toldSum : Int64) (mo_allWays : Int64) (mo_lanes : Nat) (mo_sizes : Nat) (mo_cells : Nat) (mo_torn : Int32) (mo_had : Nat) (sf : Nat → Int32) (c0 : Nat) (c3 : Nat) (c4 : Nat) (fi : Nat) (af : Nat → Int32) (i : Int32) (e0 : sf 0 = nI c0) (h0 : c0 ≤ 8) (h02 : 2 ≤ c0) (e3 : sf 16 = nI c3) (h3 : c3 ≤ 8) (e4 : sf 25 = nI c4) (h4 : c4 ≤ 6) (hpe : mo_pe ≤ 4) (hm2 : 2 ≤ mo_hm) (hm5 : mo_hm ≤ 5) (ef : sf 14 = nI fi) (hfi : fi ≤ 99) (hsaw : ∀ i, i < c4 → vp_in (sf (26 + 3 * i)) 4) : MI l yX8_kinds wsX8_kinds ({ frames := 5, cells := 0, slots := 0, locals := 116 }) D k [.ref mo, .int i] [oq7 mo mo_st mo_at mo_isKept (nI mo_pe) (nI mo_hm) mo_draft (nI mo_dp) (nI mo_dh) mo_toldLines mo_highest mo_tape (nI mo_tl) (nI mo_ps) (nI mo_fr) mo_sort mo_value (nI mo_ft) mo_wrongAt mo_row mo_orderMany (nI mo_fo) mo_lightest mo_heaviest mo_before mo_justSum mo_toldSum mo_allWays mo_lanes mo_sizes mo_cells mo_torn mo_had, oqI k mo_st 132 (sf), oqI k mo_at 44 (af)] sz (fun (r : Int32) (u : Nat → Int32) => r = A_kinM c0 mo_pe c4 sf i) (fun (u : Nat → Int32) => [oq7 mo mo_st mo_at mo_isKept (nI mo_pe) (nI mo_hm) mo_draft (nI mo_dp) (nI mo_dh) mo_toldLines mo_highest mo_tape (nI mo_tl) (nI mo_ps) (nI mo_fr) mo_sort mo_value (nI mo_ft) mo_wrongAt mo_row mo_orderMany (nI mo_fo) mo_lightest mo_heaviest mo_before mo_justSum mo_toldSum mo_allWays mo_lanes mo_sizes mo_cells mo_torn mo_had, oqI k mo_st 132 (sf), oqI k mo_at 44 (u)]) := by
  refine Met.ofW (cc := cX8_kinds) (maxL := 4) (ret := (some .int)) hpn_X8 rfl ?_
  intro p e s m args below meth c s₁ B hml hv
  obtain ⟨rfl, hsz, hP, hK, hD0, hN⟩ := hv
  have hx := B.exec
  have hb := B.bytes
  have hr := B.returns
  have hlocks := B.notSynchronized
  have hts := atoms_spec (ws := wsX8_kinds) B.pre
  have hown := findClass_of_methodNamed B.named
  have hown : s.vm.findClass RX8 = some m.cls := hown
  have hiX8 : ∀ w ∈ u_ws RX8 TX8 32, w ∈ wsX8_kinds := fun w9 hw9 => List.mem_cons_of_mem _ (igX8 w9 hw9)
  have fl13 := hts (.fieldLink RX8 13 "HalfScalesModel" "at" "[I") (List.mem_cons_of_mem _ (hs_inG 4 81 rfl rfl))
  subst hsz
  have hD := hD0.self (sz := s.heap.size)
  generalize hAe : va_A [oq7 mo mo_st mo_at mo_isKept (nI mo_pe) (nI mo_hm) mo_draft (nI mo_dp) (nI mo_dh) mo_toldLines mo_highest mo_tape (nI mo_tl) (nI mo_ps) (nI mo_fr) mo_sort mo_value (nI mo_ft) mo_wrongAt mo_row mo_orderMany (nI mo_fo) mo_lightest mo_heaviest mo_before mo_justSum mo_toldSum mo_allWays mo_lanes mo_sizes mo_cells mo_torn mo_had, oqI k mo_st 132 (sf), oqI k mo_at 44 (af)] s.heap.size = A at hD ⊢
  have hA : ∀ q : Nat, s.heap.size ≤ q → A q := fun q h => by rw [← hAe]; exact Or.inr h
  have hS : va_S A s.heap s.heap [] := va_S.rf
  have hl := lv_entry ([.ref mo, .int i]) (n := 4) (Nat.le_of_ble_eq_true rfl)
  rw [lg_entry_eq]
  generalize (lg_sl ([.ref mo, .int i]) ++ List.replicate (4 - (lg_sl ([.ref mo, .int i])).length) Slot.unset).toArray = ls at hl ⊢
  have hl : lv_has ls 4 [(0, .ref mo), (1, .int i)] := hl
  have hP : va_P D vwCl [oq7 mo mo_st mo_at mo_isKept (nI mo_pe) (nI mo_hm) mo_draft (nI mo_dp) (nI mo_dh) mo_toldLines mo_highest mo_tape (nI mo_tl) (nI mo_ps) (nI mo_fr) mo_sort mo_value (nI mo_ft) mo_wrongAt mo_row mo_orderMany (nI mo_fo) mo_lightest mo_heaviest mo_before mo_justSum mo_toldSum mo_allWays mo_lanes mo_sizes mo_cells mo_torn mo_had, oqI k mo_st 132 (sf), oqI k mo_at 44 (af)] s.heap := hP
  refine lv_aload_n hx hb dX8_kinds_0 rfl (lv_at hl 0 rfl) ?_
  refine lv_iload_n hx hb dX8_kinds_1 rfl (lv_at hl 1 rfl) ?_
  refine hs_ciM (va_runV (As := [.int i]) (rest := []) ⟨hx, hb, hml, hown, hts⟩ (gm_isPerson l D k _ mo mo_st mo_at mo_isKept mo_pe mo_hm mo_draft mo_dp mo_dh mo_toldLines mo_highest mo_tape mo_tl mo_ps mo_fr mo_sort mo_value mo_ft mo_wrongAt mo_row mo_orderMany mo_fo mo_lightest mo_heaviest mo_before mo_justSum mo_toldSum mo_allWays mo_lanes mo_sizes mo_cells mo_torn mo_had i (by omega)) (cwV 1 hts gX8_kinds_X8_isPerson rfl rfl rfl ⟨rfl, hq_X8_isPerson⟩ ⟨Nat.le_of_ble_eq_true rfl, Nat.le_of_ble_eq_true rfl⟩) (hs_preV hK hN (hs_subP (w := [_]) hP [0] rfl) (hD.sub (ws' := [_]) [0] (hs_upnd rfl) rfl) (ci := 7) (q0 := 0) rfl rfl) rfl rfl hl.1 rfl (lv_room (Nat.le_of_ble_eq_true rfl)) dX8_kinds_2 ⟨Nat.le_of_ble_eq_true rfl, Nat.le_of_ble_eq_true rfl⟩) hP hD hS hA [false, true, true] [_, _] [_] rfl [0] rfl [0] (fun u_3 => [_]) (fun _ => rfl) (hs_upnd rfl) [false, true, true] (fun u_3 => [_, _, _]) (fun _ => rfl) (fun r_1 u_3 H locs hw_2 hP hD hS => ?_)
  refine hs_topi (hsb (hslt i mo_pe)) hw_2 ?_
  refine lv_if_ne (tgt := 10) hx hb dX8_kinds_5 rfl (fun c_4 => ?_) (fun c_4 => ?_)
  · obtain ⟨ji, hji, rfl⟩ := hslt_ex (hs_nb c_4)
    refine lv_iconst (v := 0) hx hb dX8_kinds_10 hki_0 ?_
    refine lv_istore_n (lv' := [(2, .int 0), (0, .ref mo), (1, .int (nI ji))]) hx hb dX8_kinds_11 rfl hl (Nat.le_of_ble_eq_true rfl) rfl (fun ls hl => ?_)
    refine lv_aload_n hx hb dX8_kinds_12 rfl (lv_at hl 1 rfl) ?_
    refine hs_cvM (va_runV (As := []) (rest := []) ⟨hx, hb, hml, hown, hts⟩ (gm_starts l D k _ mo mo_st mo_at mo_isKept mo_pe mo_hm mo_draft mo_dp mo_dh mo_toldLines mo_highest mo_tape mo_tl mo_ps mo_fr mo_sort mo_value mo_ft mo_wrongAt mo_row mo_orderMany mo_fo mo_lightest mo_heaviest mo_before mo_justSum mo_toldSum mo_allWays mo_lanes mo_sizes mo_cells mo_torn mo_had sf af) (cwV 0 hts gX8_kinds_X8_starts rfl rfl rfl ⟨rfl, hq_X8_starts⟩ ⟨Nat.le_of_ble_eq_true rfl, Nat.le_of_ble_eq_true rfl⟩) (hs_preV hK hN (hs_subP (w := [_, _, _]) hP [0, 1, 2] rfl) (hD.sub (ws' := [_, _, _]) [0, 1, 2] (hs_upnd rfl) rfl) (ci := 7) (q0 := 0) rfl rfl) rfl rfl hl.1 rfl (lv_room (Nat.le_of_ble_eq_true rfl)) dX8_kinds_13 ⟨Nat.le_of_ble_eq_true rfl, Nat.le_of_ble_eq_true rfl⟩) hP hD hS hA [false, false, false] [] [_, _, _] rfl [0, 1, 2] rfl [0, 1, 2] (fun u_7 => [_, _, _]) (fun _ => rfl) (hs_upnd rfl) [false, false, false] (fun u_7 => [_, _, _]) (fun _ => rfl) (fun u_7 H locs hw_6 hP hD hS => ?_)
    have hw_6 : ∀ j, j < 44 → u_7 j = sf j := hw_6
    have e0a : u_7 0 = nI c0 := (hw_6 0 (by decide)).trans e0
    have e3a : u_7 16 = nI c3 := (hw_6 16 (by decide)).trans e3
    have e4a : u_7 25 = nI c4 := (hw_6 25 (by decide)).trans e4
    have hw_6 : ∀ j, j < 44 → u_7 j = sf j := hw_6
    refine lv_iconst (v := 0) hx hb dX8_kinds_16 hki_0 ?_
    refine lv_istore_n (lv' := [(3, .int 0), (2, .int 0), (0, .ref mo), (1, .int (nI ji))]) hx hb dX8_kinds_17 rfl hl (Nat.le_of_ble_eq_true rfl) rfl (fun ls hl => ?_)
    refine hs_while (σ := Int32 × Nat × (Nat → Int32)) (fun x => x.2.1 ≤ 4 ∧ x.1 = A_btP (A_kiM c0 c4 sf ji) x.2.1 ∧ ∀ q, q < 44 → ¬ q = 9 + ji → x.2.2 q = sf q) (fun x => 4 - x.2.1) (fun x => [oq7 mo mo_st mo_at mo_isKept (nI mo_pe) (nI mo_hm) mo_draft (nI mo_dp) (nI mo_dh) mo_toldLines mo_highest mo_tape (nI mo_tl) (nI mo_ps) (nI mo_fr) mo_sort mo_value (nI mo_ft) mo_wrongAt mo_row mo_orderMany (nI mo_fo) mo_lightest mo_heaviest mo_before mo_justSum mo_toldSum mo_allWays mo_lanes mo_sizes mo_cells mo_torn mo_had, oqI k mo_st 132 (sf), oqI k mo_at 44 ((x.2.2))]) (fun x => [(3, .int (nI (x.2.1))), (2, .int (x.1)), (0, .ref mo), (1, .int (nI ji))]) ?_ (0, 0, u_7) ?_ hP hD hS hl
    · intro x hI ih18 H locs ls hP hD hS hl
      obtain ⟨so, v, ag⟩ := x
      try dsimp only at hI
      have hP : va_P D vwCl [_, _, oqI k mo_at 44 (ag)] H := hP
      have hD : va_D A [_, _, oqI k mo_at 44 (ag)] := hD
      have hl : lv_has ls 4 [(3, .int (nI v)), (2, .int so), (0, .ref mo), (1, .int (nI ji))] := hl
      refine lv_iload_n hx hb dX8_kinds_18 rfl (lv_at hl 0 rfl) ?_
      refine lv_iconst (v := 4) hx hb dX8_kinds_19 hki_4 ?_
      refine lv_icmp_ge (tgt := 51) hx hb dX8_kinds_20 rfl (fun c_8 => ?_) (fun c_8 => ?_)
      · have nc_8 : 4 ≤ v := (nI_leI (a := 4) (b := v) (by omega) (by omega)).mp c_8
        refine lv_iload_n hx hb dX8_kinds_51 rfl (lv_at hl 1 rfl) ?_
        exact hs_iret hx hb hr hlocks hK hP hD hS ag [0, 1, 2] rfl (hs_upnd rfl) dX8_kinds_52 ((by rw [A_kinM, if_pos (hs_nb c_4), nI_clamp (by omega), hI.2.1, show v = 4 by omega]))
      · have nc_8 : ¬ 4 ≤ v := fun hq9 => c_8 ((nI_leI (a := 4) (b := v) (by omega) (by omega)).mpr hq9)
        refine lv_aload_n hx hb dX8_kinds_23 rfl (lv_at hl 2 rfl) ?_
        refine va_get (D := D) (ci := 7) (v := .ref mo_at) (C := RX8) (T := TX8) (N := 32) hx hb hts hiX8 hown hK hP 0 rfl rfl 1 (Nat.le_of_ble_eq_true rfl) fl13 (fun _ h9 => h9) rfl dX8_kinds_24 ?_
        refine lv_bipush (v := 9) hx hb dX8_kinds_27 hkb_9 ?_
        refine lv_iload_n hx hb dX8_kinds_29 rfl (lv_at hl 3 rfl) ?_
        refine lv_iadd hx hb dX8_kinds_30 ?_
        refine hs_topi (nI (9 + ji)) (nI_add (9) (ji)) ?_
        refine lv_iload_n hx hb dX8_kinds_31 rfl (lv_at hl 0 rfl) ?_
        refine va_iast hx hb hK hP hD hS 2 0 rfl rfl (vp_in_nI (show (9 + ji) < 44 by omega) (by decide)) dX8_kinds_32 (fun H locs hP hD hS => ?_)
        have hE : upd ag ((nI (9 + ji)).toNatClampNeg) (nI v) = upd ag (9 + ji) (nI v) := (by rw [nI_clamp (by omega)])
        have hP : va_P D vwCl [_, _, oqI k mo_at 44 (upd ag ((nI (9 + ji)).toNatClampNeg) (nI v))] H := hP
        have hD : va_D A [_, _, oqI k mo_at 44 (upd ag ((nI (9 + ji)).toNatClampNeg) (nI v))] := hD
        rw [hE] at hP hD
        refine lv_iload_n hx hb dX8_kinds_33 rfl (lv_at hl 1 rfl) ?_
        refine lv_aload_n hx hb dX8_kinds_34 rfl (lv_at hl 2 rfl) ?_
        refine hs_ciM (va_runV (As := []) (rest := [.int so]) ⟨hx, hb, hml, hown, hts⟩ (gr_isSo l D k _ mo mo_st mo_at mo_isKept mo_pe mo_hm mo_draft mo_dp mo_dh mo_toldLines mo_highest mo_tape mo_tl mo_ps mo_fr mo_sort mo_value mo_ft mo_wrongAt mo_row mo_orderMany mo_fo mo_lightest mo_heaviest mo_before mo_justSum mo_toldSum mo_allWays mo_lanes mo_sizes mo_cells mo_torn mo_had (upd ag (9 + ji) (nI v)) c0 c4 ((hs_un (by omega)).trans ((hI.2.2 0 (by omega) (by omega)).trans e0)) h0 ((hs_un (by omega)).trans ((hI.2.2 25 (by omega) (by omega)).trans e4)) h4 (fun i9 h9 => by rw [hs_un (by omega), hI.2.2 (26 + 3 * i9) (by omega) (by omega)]; exact hsaw i9 h9)) (cwV 0 hts gX8_kinds_X8_isSo rfl rfl rfl ⟨rfl, hq_X8_isSo⟩ ⟨Nat.le_of_ble_eq_true rfl, Nat.le_of_ble_eq_true rfl⟩) (hs_preV hK hN (hs_subP (w := [_, _]) hP [0, 2] rfl) (hD.sub (ws' := [_, _]) [0, 2] (hs_upnd rfl) rfl) (ci := 7) (q0 := 0) rfl rfl) rfl rfl hl.1 rfl (lv_room (Nat.le_of_ble_eq_true rfl)) dX8_kinds_35 ⟨Nat.le_of_ble_eq_true rfl, Nat.le_of_ble_eq_true rfl⟩) hP hD hS hA [false, true, false] [_] [_, _] rfl [0, 1] rfl [0, 1] (fun u_11 => [_, _]) (fun _ => rfl) (hs_upnd rfl) [false, true, false] (fun u_11 => [_, _, _]) (fun _ => rfl) (fun r_9 u_11 H locs hw_10 hP hD hS => ?_)
        refine hs_topi (hsb (A_asM c0 (upd ag (9 + ji) (nI v)) c4)) hw_10 ?_
        refine hs_pi (va_runS (As := [.int (hsb (A_asM c0 (upd ag (9 + ji) (nI v)) c4))]) (rest := [.int so]) ⟨hx, hb, hml, hown, hts⟩ (gr_flagc l D k _ (hsb (A_asM c0 (upd ag (9 + ji) (nI v)) c4))) (va_cwS 1 hts gX8_kinds_X8_flag rfl rfl rfl hq_X8_flag ⟨Nat.le_of_ble_eq_true rfl, Nat.le_of_ble_eq_true rfl⟩) (hs_preS hK hN (hs_subP (w := []) hP [] rfl) (hD.sub (ws' := []) [] rfl rfl)) rfl rfl hl.1 rfl (lv_room (Nat.le_of_ble_eq_true rfl)) dX8_kinds_38 ⟨Nat.le_of_ble_eq_true rfl, Nat.le_of_ble_eq_true rfl⟩) hP hD hS hA (fun r_12 u_14 H locs hw_13 hP hS => ?_)
        refine hs_topi (if (hsb (A_asM c0 (upd ag (9 + ji) (nI v)) c4)) = 0 then 0 else 1) hw_13 ?_
        refine lv_iload_n hx hb dX8_kinds_41 rfl (lv_at hl 0 rfl) ?_
        refine lv_ishl hx hb dX8_kinds_42 ?_
        refine lv_ior hx hb dX8_kinds_43 ?_
        refine lv_istore_n (lv' := [(2, .int (so ||| ((if (hsb (A_asM c0 (upd ag (9 + ji) (nI v)) c4)) = 0 then 0 else 1) <<< ((nI v) &&& 31)))), (3, .int (nI v)), (0, .ref mo), (1, .int (nI ji))]) hx hb dX8_kinds_44 rfl hl (Nat.le_of_ble_eq_true rfl) rfl (fun ls hl => ?_)
        refine lv_iinc (v := nI (v + 1)) (lv' := [(3, .int (nI (v + 1))), (2, .int (so ||| ((if (hsb (A_asM c0 (upd ag (9 + ji) (nI v)) c4)) = 0 then 0 else 1) <<< ((nI v) &&& 31)))), (0, .ref mo), (1, .int (nI ji))]) hx hb dX8_kinds_45 hl (k := 1) rfl (nI_add (v) 1) (Nat.le_of_ble_eq_true rfl) rfl (fun ls hl => ?_)
        refine lv_goto (tgt := 18) hx hb dX8_kinds_48 rfl ?_
        exact ih18 (so ||| ((if (hsb (A_asM c0 (upd ag (9 + ji) (nI v)) c4)) = 0 then 0 else 1) <<< ((nI v) &&& 31)), v + 1, upd ag (9 + ji) (nI v)) (by (try dsimp only); exact ⟨by omega, by rw [A_btP, ← hI.2.1]; exact (A_flg (by omega)).trans (by rw [A_asM_congr (by omega) (A_updc hI.2.2) c4 (by omega) (fun i9 h9 => by rw [hs_un (by omega)]; exact hsaw i9 h9)]; rfl), fun q h1 h2 => by rw [hs_un h2]; exact hI.2.2 q h1 h2⟩) (by (try dsimp only); omega) _ _ _ hP hD hS (lv_sub hl [0, 1, 2, 3] rfl)
    · (try dsimp only); exact ⟨Nat.zero_le _, rfl, fun q h1 _ => hw_6 q h1⟩
  · refine lv_iconst (v := (-1)) hx hb dX8_kinds_8 hki_m1 ?_
    exact hs_iret hx hb hr hlocks hK hP hD hS af [0, 1, 2] rfl (hs_upnd rfl) dX8_kinds_9 ((by rw [A_kinM, if_neg (by rw [hs_n0 c_4]; decide)]))
