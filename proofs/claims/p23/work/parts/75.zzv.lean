set_option maxHeartbeats 4000000 in
set_option maxRecDepth 100000 in
theorem gpf_sly (l : Launch) (D : va_G) (k : Nat → ClassId) (sz : Nat) (h : Nat) (h_now : Nat) (h_trial : Nat) (h_images : Nat) (h_imageThere : Nat) (h_teller : Nat) (h_ranks : Nat) (h_court : Nat) (h_sheets : Nat) (h_lf : Int32) (h_lt : Int32) (n_a : Nat → Nat) (n_N : Nat → Nat) (n_J : Nat → Int32) (n_F : Nat → Nat → Int32) (i : Int32) (v : Int32) (what : Int32) (hN0 : thN n_N) (hF : thF n_N n_F) (h2 : 2 ≤ n_N 0) : MI l yX7_sly wsX7_sly ({ frames := 5, cells := 0, slots := 0, locals := 122 }) D k [.ref h, .int i, .int v, .int what] [oq6 h h_now h_trial h_images h_imageThere h_teller h_ranks h_court h_sheets h_lf h_lt, oqT h_now n_a n_N n_J, oqF0 k n_a n_F, oqF1 k n_a n_F, oqF2 k n_a n_F, oqF3 k n_a n_F, oqF4 k n_a n_F, oqF5 k n_a n_F, oqF6 k n_a n_F] sz (fun (r : Int32) (u : Unit) => r = A_slyC n_N n_F i v what) (fun (u : Unit) => [oq6 h h_now h_trial h_images h_imageThere h_teller h_ranks h_court h_sheets h_lf h_lt, oqT h_now n_a n_N n_J, oqF0 k n_a n_F, oqF1 k n_a n_F, oqF2 k n_a n_F, oqF3 k n_a n_F, oqF4 k n_a n_F, oqF5 k n_a n_F, oqF6 k n_a n_F]) := by
  refine Met.ofW (cc := cX7_sly) (maxL := 5) (ret := (some .int)) hpn_X7 rfl ?_
  intro p e s m args below meth c s₁ B hml hv
  obtain ⟨rfl, hsz, hP, hK, hD0, hN⟩ := hv
  have hx := B.exec
  have hb := B.bytes
  have hr := B.returns
  have hlocks := B.notSynchronized
  have hts := atoms_spec (ws := wsX7_sly) B.pre
  have hown := findClass_of_methodNamed B.named
  have hown : s.vm.findClass RX7 = some m.cls := hown
  have hiX7 : ∀ w ∈ u_ws RX7 TX7 10, w ∈ wsX7_sly := fun w9 hw9 => List.mem_cons_of_mem _ (igX7 w9 hw9)
  have fl10 := hts (.fieldLink RX7 10 "HalfScales" "now" "LHalfScales$Thing;") (List.mem_cons_of_mem _ (hs_inG 1 215 rfl rfl))
  have hNn := hN0
  obtain ⟨I0, I1, ⟨I2, I2b⟩, I3, I4⟩ := hN0
  subst hsz
  have hD := hD0.self (sz := s.heap.size)
  generalize hAe : va_A [oq6 h h_now h_trial h_images h_imageThere h_teller h_ranks h_court h_sheets h_lf h_lt, oqT h_now n_a n_N n_J, oqF0 k n_a n_F, oqF1 k n_a n_F, oqF2 k n_a n_F, oqF3 k n_a n_F, oqF4 k n_a n_F, oqF5 k n_a n_F, oqF6 k n_a n_F] s.heap.size = A at hD ⊢
  have hA : ∀ q : Nat, s.heap.size ≤ q → A q := fun q h => by rw [← hAe]; exact Or.inr h
  have hS : va_S A s.heap s.heap [] := va_S.rf
  have hl := lv_entry ([.ref h, .int i, .int v, .int what]) (n := 5) (Nat.le_of_ble_eq_true rfl)
  rw [lg_entry_eq]
  generalize (lg_sl ([.ref h, .int i, .int v, .int what]) ++ List.replicate (5 - (lg_sl ([.ref h, .int i, .int v, .int what])).length) Slot.unset).toArray = ls at hl ⊢
  have hl : lv_has ls 5 [(0, .ref h), (1, .int i), (2, .int v), (3, .int what)] := hl
  have hP : va_P D vwCl [oq6 h h_now h_trial h_images h_imageThere h_teller h_ranks h_court h_sheets h_lf h_lt, oqT h_now n_a n_N n_J, oqF0 k n_a n_F, oqF1 k n_a n_F, oqF2 k n_a n_F, oqF3 k n_a n_F, oqF4 k n_a n_F, oqF5 k n_a n_F, oqF6 k n_a n_F] s.heap := hP
  refine lv_aload_n hx hb dX7_sly_0 rfl (lv_at hl 0 rfl) ?_
  refine lv_iload_n hx hb dX7_sly_1 rfl (lv_at hl 1 rfl) ?_
  refine lv_iload_n hx hb dX7_sly_2 rfl (lv_at hl 2 rfl) ?_
  refine hs_ciM (va_runV (As := [.int i, .int v]) (rest := []) ⟨hx, hb, hml, hown, hts⟩ (g_areTwo l D k _ h h_now h_trial h_images h_imageThere h_teller h_ranks h_court h_sheets h_lf h_lt n_a n_N n_J i v (by first | assumption | exact ⟨by first | omega | (dsimp; omega), by first | omega | (dsimp; omega), ⟨by first | omega | (dsimp; omega), by first | omega | (dsimp; omega)⟩, by first | omega | (dsimp; omega), by first | omega | (dsimp; omega)⟩)) (cwV 2 hts gX7_sly_X7_areTwo rfl rfl rfl ⟨rfl, hq_X7_areTwo⟩ ⟨Nat.le_of_ble_eq_true rfl, Nat.le_of_ble_eq_true rfl⟩) (hs_preV hK hN (hs_subP (w := [_, _]) hP [0, 1] rfl) (hD.sub (ws' := [_, _]) [0, 1] (hs_upnd rfl) rfl) (ci := 6) (q0 := 0) rfl rfl) rfl rfl hl.1 rfl (lv_room (Nat.le_of_ble_eq_true rfl)) dX7_sly_3 ⟨Nat.le_of_ble_eq_true rfl, Nat.le_of_ble_eq_true rfl⟩) hP hD hS hA [false, false, true, true, true, true, true, true, true] [_, _, _, _, _, _, _] [_, _] rfl [0, 1] rfl [0, 1] (fun u_3 => [_, _]) (fun _ => rfl) (hs_upnd rfl) [false, false, true, true, true, true, true, true, true] (fun u_3 => [_, _, _, _, _, _, _, _, _]) (fun _ => rfl) (fun r_1 u_3 H locs hw_2 hP hD hS => ?_)
  refine hs_topi (hsb (hslt i (n_N 1) && hslt v (n_N 1) && !decide (i = v))) hw_2 ?_
  refine lv_if_eq (tgt := 18) hx hb dX7_sly_6 rfl (fun c_4 => ?_) (fun c_4 => ?_)
  · refine lv_iconst (v := (-1)) hx hb dX7_sly_18 hki_m1 ?_
    exact hs_iret hx hb hr hlocks hK hP hD hS () [0, 1, 2, 3, 4, 5, 6, 7, 8] rfl (hs_upnd rfl) dX7_sly_19 ((by rw [A_slyC, if_neg (by rw [show A_two _ _ _ = _ from hs_n0 c_4]; simp)]))
  · refine lv_iload_n hx hb dX7_sly_9 rfl (lv_at hl 3 rfl) ?_
    refine lv_iconst (v := 0) hx hb dX7_sly_10 hki_0 ?_
    refine lv_iconst (v := 1) hx hb dX7_sly_11 hki_1 ?_
    refine hs_pi (va_runS (As := [.int what, .int 0, .int 1]) (rest := []) ⟨hx, hb, hml, hown, hts⟩ (g_within l D k _ what 0 1) (va_cwS 3 hts gX7_sly_X7_within rfl rfl rfl hq_X7_within ⟨Nat.le_of_ble_eq_true rfl, Nat.le_of_ble_eq_true rfl⟩) (hs_preS hK hN (hs_subP (w := []) hP [] rfl) (hD.sub (ws' := []) [] rfl rfl)) rfl rfl hl.1 rfl (lv_room (Nat.le_of_ble_eq_true rfl)) dX7_sly_12 ⟨Nat.le_of_ble_eq_true rfl, Nat.le_of_ble_eq_true rfl⟩) hP hD hS hA (fun r_5 u_7 H locs hw_6 hP hS => ?_)
    refine hs_topi (hsb (hsin what 0 1)) hw_6 ?_
    refine lv_if_ne (tgt := 20) hx hb dX7_sly_15 rfl (fun c_8 => ?_) (fun c_8 => ?_)
    · obtain ⟨j1, hj1, rfl⟩ := hslt_ex (hs_and1 (hs_and1 (hs_nb c_4)))
      obtain ⟨j2, hj2, rfl⟩ := hslt_ex (hs_and2 (hs_and1 (hs_nb c_4)))
      refine lv_aload_n hx hb dX7_sly_20 rfl (lv_at hl 0 rfl) ?_
      refine va_get (D := D) (ci := 6) (v := .ref h_now) (C := RX7) (T := TX7) (N := 10) hx hb hts hiX7 hown hK hP 0 rfl rfl 0 (Nat.le_of_ble_eq_true rfl) fl10 (fun _ h9 => h9) rfl dX7_sly_21 ?_
      refine lv_iload_n hx hb dX7_sly_24 rfl (lv_at hl 1 rfl) ?_
      refine lv_iload_n hx hb dX7_sly_25 rfl (lv_at hl 2 rfl) ?_
      refine hs_ciM (va_runS (As := [.ref h_now, .int (nI j1), .int (nI j2)]) (rest := []) ⟨hx, hb, hml, hown, hts⟩ (gf_slyCut l D k _ h_now n_a n_N n_J n_F j1 j2 (by first | assumption | exact ⟨by first | omega | (dsimp; omega), by first | omega | (dsimp; omega), ⟨by first | omega | (dsimp; omega), by first | omega | (dsimp; omega)⟩, by first | omega | (dsimp; omega), by first | omega | (dsimp; omega)⟩) (by omega) (by omega)) (va_cwS 3 hts gX7_sly_X1_slyCut rfl rfl rfl hq_X1_slyCut ⟨Nat.le_of_ble_eq_true rfl, Nat.le_of_ble_eq_true rfl⟩) (hs_preS hK hN (hs_subP (w := [_, _, _, _, _, _, _, _]) hP [1, 2, 3, 4, 5, 6, 7, 8] rfl) (hD.sub (ws' := [_, _, _, _, _, _, _, _]) [1, 2, 3, 4, 5, 6, 7, 8] (hs_upnd rfl) rfl)) rfl rfl hl.1 rfl (lv_room (Nat.le_of_ble_eq_true rfl)) dX7_sly_26 ⟨Nat.le_of_ble_eq_true rfl, Nat.le_of_ble_eq_true rfl⟩) hP hD hS hA [true, false, false, false, false, false, false, false, false] [_] [_, _, _, _, _, _, _, _] rfl [0, 1, 2, 3, 4, 5, 6, 7] rfl [0, 1, 2, 3, 4, 5, 6, 7] (fun u_11 => [_, _, _, _, _, _, _, _]) (fun _ => rfl) (hs_upnd rfl) [true, false, false, false, false, false, false, false, false] (fun u_11 => [_, _, _, _, _, _, _, _, _]) (fun _ => rfl) (fun r_9 u_11 H locs hw_10 hP hD hS => ?_)
      refine hs_topi ((A_mxC (A_slC n_N n_F j1 j2) (n_N 0 - 2)).1) hw_10 ?_
      refine lv_istore (lv' := [(4, .int ((A_mxC (A_slC n_N n_F j1 j2) (n_N 0 - 2)).1)), (0, .ref h), (1, .int (nI j1)), (2, .int (nI j2)), (3, .int what)]) hx hb dX7_sly_29 hl (Nat.le_of_ble_eq_true rfl) rfl (fun ls hl => ?_)
      refine lv_iload_n hx hb dX7_sly_31 rfl (lv_at hl 4 rfl) ?_
      refine lv_if_ne (tgt := 40) hx hb dX7_sly_32 rfl (fun c_12 => ?_) (fun c_12 => ?_)
      · refine lv_aload_n hx hb dX7_sly_40 rfl (lv_at hl 1 rfl) ?_
        refine va_get (D := D) (ci := 6) (v := .ref h_now) (C := RX7) (T := TX7) (N := 10) hx hb hts hiX7 hown hK hP 0 rfl rfl 0 (Nat.le_of_ble_eq_true rfl) fl10 (fun _ h9 => h9) rfl dX7_sly_41 ?_
        refine lv_iload_n hx hb dX7_sly_44 rfl (lv_at hl 2 rfl) ?_
        refine lv_iload_n hx hb dX7_sly_45 rfl (lv_at hl 3 rfl) ?_
        refine lv_iload hx hb dX7_sly_46 (lv_at hl 0 rfl) ?_
        refine hs_ciM (va_runS (As := [.ref h_now, .int (nI j1), .int (nI j2), .int ((A_mxC (A_slC n_N n_F j1 j2) (n_N 0 - 2)).1)]) (rest := []) ⟨hx, hb, hml, hown, hts⟩ (gf_leftOver l D k _ h_now n_a n_N n_J n_F j1 j2 ((A_mxC (A_slC n_N n_F j1 j2) (n_N 0 - 2)).1) (by first | assumption | exact ⟨by first | omega | (dsimp; omega), by first | omega | (dsimp; omega), ⟨by first | omega | (dsimp; omega), by first | omega | (dsimp; omega)⟩, by first | omega | (dsimp; omega), by first | omega | (dsimp; omega)⟩) (by omega) (by omega)) (va_cwS 4 hts gX7_sly_X1_leftOver rfl rfl rfl hq_X1_leftOver ⟨Nat.le_of_ble_eq_true rfl, Nat.le_of_ble_eq_true rfl⟩) (hs_preS hK hN (hs_subP (w := [_, _, _, _, _, _, _, _]) hP [1, 2, 3, 4, 5, 6, 7, 8] rfl) (hD.sub (ws' := [_, _, _, _, _, _, _, _]) [1, 2, 3, 4, 5, 6, 7, 8] (hs_upnd rfl) rfl)) rfl rfl hl.1 rfl (lv_room (Nat.le_of_ble_eq_true rfl)) dX7_sly_48 ⟨Nat.le_of_ble_eq_true rfl, Nat.le_of_ble_eq_true rfl⟩) hP hD hS hA [true, false, false, false, false, false, false, false, false] [_] [_, _, _, _, _, _, _, _] rfl [0, 1, 2, 3, 4, 5, 6, 7] rfl [0, 1, 2, 3, 4, 5, 6, 7] (fun u_15 => [_, _, _, _, _, _, _, _]) (fun _ => rfl) (hs_upnd rfl) [true, false, false, false, false, false, false, false, false] (fun u_15 => [_, _, _, _, _, _, _, _, _]) (fun _ => rfl) (fun r_13 u_15 H locs hw_14 hP hD hS => ?_)
        refine hs_topi (A_loC (A_fc n_F j1) (A_fc n_F j2) (n_N 0) ((A_mxC (A_slC n_N n_F j1 j2) (n_N 0 - 2)).1)) hw_14 ?_
        exact hs_iret hx hb hr hlocks hK hP hD hS () [0, 1, 2, 3, 4, 5, 6, 7, 8] rfl (hs_upnd rfl) dX7_sly_51 ((by rw [A_slyC, if_pos (by rw [show A_two _ _ _ = _ from hs_nb c_4, hs_nb c_8]; rfl), nI_clamp (by omega), nI_clamp (by omega), if_neg c_12]; try rfl))
      · refine lv_iload hx hb dX7_sly_35 (lv_at hl 0 rfl) ?_
        refine lv_goto (tgt := 51) hx hb dX7_sly_37 rfl ?_
        exact hs_iret hx hb hr hlocks hK hP hD hS () [0, 1, 2, 3, 4, 5, 6, 7, 8] rfl (hs_upnd rfl) dX7_sly_51 ((by rw [A_slyC, if_pos (by rw [show A_two _ _ _ = _ from hs_nb c_4, hs_nb c_8]; rfl), nI_clamp (by omega), nI_clamp (by omega), if_pos c_12]; try rfl))
    · refine lv_iconst (v := (-1)) hx hb dX7_sly_18 hki_m1 ?_
      exact hs_iret hx hb hr hlocks hK hP hD hS () [0, 1, 2, 3, 4, 5, 6, 7, 8] rfl (hs_upnd rfl) dX7_sly_19 ((by rw [A_slyC, if_neg (by rw [hs_n0 c_8, Bool.and_false]; decide)]))

set_option maxHeartbeats 4000000 in
set_option maxRecDepth 100000 in
theorem gqf_sly (l : Launch) (D : va_G) (k : Nat → ClassId) (sz : Nat) (mo : Nat) (mo_st : Nat) (mo_at : Nat) (mo_isKept : Nat) (mo_pe : Nat) (mo_hm : Nat) (mo_draft : Nat) (mo_dp : Nat) (mo_dh : Nat) (mo_toldLines : Int32) (mo_highest : Int32) (mo_tape : Nat) (mo_tl : Nat) (mo_ps : Nat) (mo_fr : Nat) (mo_sort : Int32) (mo_value : Int32) (mo_ft : Nat) (mo_wrongAt : Int32) (mo_row : Nat) (mo_orderMany : Int32) (mo_fo : Nat) (mo_lightest : Int32) (mo_heaviest : Int32) (mo_before : Nat) (mo_justSum : Int64) (mo_toldSum : Int64) (mo_allWays : Int64) (mo_lanes : Nat) (mo_sizes : Nat) (mo_cells : Nat) (mo_torn : Int32) (mo_had : Nat) (sf : Nat → Int32) (c0 : Nat) (c3 : Nat) (c4 : Nat) (fi : Nat) (af : Nat → Int32) (i : Int32) (v : Int32) (what : Int32) (e0 : sf 0 = nI c0) (h0 : c0 ≤ 8) (h02 : 2 ≤ c0) (e3 : sf 16 = nI c3) (h3 : c3 ≤ 8) (e4 : sf 25 = nI c4) (h4 : c4 ≤ 6) (hpe : mo_pe ≤ 4) (hm2 : 2 ≤ mo_hm) (hm5 : mo_hm ≤ 5) (ef : sf 14 = nI fi) (hfi : fi ≤ 99) (hsaw : ∀ i, i < c4 → vp_in (sf (26 + 3 * i)) 4) : MI l yX8_sly wsX8_sly ({ frames := 4, cells := 0, slots := 0, locals := 92 }) D k [.ref mo, .int i, .int v, .int what] [oq7 mo mo_st mo_at mo_isKept (nI mo_pe) (nI mo_hm) mo_draft (nI mo_dp) (nI mo_dh) mo_toldLines mo_highest mo_tape (nI mo_tl) (nI mo_ps) (nI mo_fr) mo_sort mo_value (nI mo_ft) mo_wrongAt mo_row mo_orderMany (nI mo_fo) mo_lightest mo_heaviest mo_before mo_justSum mo_toldSum mo_allWays mo_lanes mo_sizes mo_cells mo_torn mo_had, oqI k mo_st 132 (sf), oqI k mo_at 44 (af)] sz (fun (r : Int32) (u : Nat → Int32) => r = A_slyM c0 mo_pe sf i v what) (fun (u : Nat → Int32) => [oq7 mo mo_st mo_at mo_isKept (nI mo_pe) (nI mo_hm) mo_draft (nI mo_dp) (nI mo_dh) mo_toldLines mo_highest mo_tape (nI mo_tl) (nI mo_ps) (nI mo_fr) mo_sort mo_value (nI mo_ft) mo_wrongAt mo_row mo_orderMany (nI mo_fo) mo_lightest mo_heaviest mo_before mo_justSum mo_toldSum mo_allWays mo_lanes mo_sizes mo_cells mo_torn mo_had, oqI k mo_st 132 (sf), oqI k mo_at 44 (u)]) := by
  refine Met.ofW (cc := cX8_sly) (maxL := 8) (ret := (some .int)) hpn_X8 rfl ?_
  intro p e s m args below meth c s₁ B hml hv
  obtain ⟨rfl, hsz, hP, hK, hD0, hN⟩ := hv
  have hx := B.exec
  have hb := B.bytes
  have hr := B.returns
  have hlocks := B.notSynchronized
  have hts := atoms_spec (ws := wsX8_sly) B.pre
  have hown := findClass_of_methodNamed B.named
  have hown : s.vm.findClass RX8 = some m.cls := hown
  have hiX8 : ∀ w ∈ u_ws RX8 TX8 32, w ∈ wsX8_sly := fun w9 hw9 => List.mem_cons_of_mem _ (igX8 w9 hw9)
  have fl13 := hts (.fieldLink RX8 13 "HalfScalesModel" "at" "[I") (List.mem_cons_of_mem _ (hs_inG 4 81 rfl rfl))
  subst hsz
  have hD := hD0.self (sz := s.heap.size)
  generalize hAe : va_A [oq7 mo mo_st mo_at mo_isKept (nI mo_pe) (nI mo_hm) mo_draft (nI mo_dp) (nI mo_dh) mo_toldLines mo_highest mo_tape (nI mo_tl) (nI mo_ps) (nI mo_fr) mo_sort mo_value (nI mo_ft) mo_wrongAt mo_row mo_orderMany (nI mo_fo) mo_lightest mo_heaviest mo_before mo_justSum mo_toldSum mo_allWays mo_lanes mo_sizes mo_cells mo_torn mo_had, oqI k mo_st 132 (sf), oqI k mo_at 44 (af)] s.heap.size = A at hD ⊢
  have hA : ∀ q : Nat, s.heap.size ≤ q → A q := fun q h => by rw [← hAe]; exact Or.inr h
  have hS : va_S A s.heap s.heap [] := va_S.rf
  have hl := lv_entry ([.ref mo, .int i, .int v, .int what]) (n := 8) (Nat.le_of_ble_eq_true rfl)
  rw [lg_entry_eq]
  generalize (lg_sl ([.ref mo, .int i, .int v, .int what]) ++ List.replicate (8 - (lg_sl ([.ref mo, .int i, .int v, .int what])).length) Slot.unset).toArray = ls at hl ⊢
  have hl : lv_has ls 8 [(0, .ref mo), (1, .int i), (2, .int v), (3, .int what)] := hl
  have hP : va_P D vwCl [oq7 mo mo_st mo_at mo_isKept (nI mo_pe) (nI mo_hm) mo_draft (nI mo_dp) (nI mo_dh) mo_toldLines mo_highest mo_tape (nI mo_tl) (nI mo_ps) (nI mo_fr) mo_sort mo_value (nI mo_ft) mo_wrongAt mo_row mo_orderMany (nI mo_fo) mo_lightest mo_heaviest mo_before mo_justSum mo_toldSum mo_allWays mo_lanes mo_sizes mo_cells mo_torn mo_had, oqI k mo_st 132 (sf), oqI k mo_at 44 (af)] s.heap := hP
  refine lv_aload_n hx hb dX8_sly_0 rfl (lv_at hl 0 rfl) ?_
  refine lv_iload_n hx hb dX8_sly_1 rfl (lv_at hl 1 rfl) ?_
  refine hs_ciM (va_runV (As := [.int i]) (rest := []) ⟨hx, hb, hml, hown, hts⟩ (gm_isPerson l D k _ mo mo_st mo_at mo_isKept mo_pe mo_hm mo_draft mo_dp mo_dh mo_toldLines mo_highest mo_tape mo_tl mo_ps mo_fr mo_sort mo_value mo_ft mo_wrongAt mo_row mo_orderMany mo_fo mo_lightest mo_heaviest mo_before mo_justSum mo_toldSum mo_allWays mo_lanes mo_sizes mo_cells mo_torn mo_had i (by omega)) (cwV 1 hts gX8_sly_X8_isPerson rfl rfl rfl ⟨rfl, hq_X8_isPerson⟩ ⟨Nat.le_of_ble_eq_true rfl, Nat.le_of_ble_eq_true rfl⟩) (hs_preV hK hN (hs_subP (w := [_]) hP [0] rfl) (hD.sub (ws' := [_]) [0] (hs_upnd rfl) rfl) (ci := 7) (q0 := 0) rfl rfl) rfl rfl hl.1 rfl (lv_room (Nat.le_of_ble_eq_true rfl)) dX8_sly_2 ⟨Nat.le_of_ble_eq_true rfl, Nat.le_of_ble_eq_true rfl⟩) hP hD hS hA [false, true, true] [_, _] [_] rfl [0] rfl [0] (fun u_3 => [_]) (fun _ => rfl) (hs_upnd rfl) [false, true, true] (fun u_3 => [_, _, _]) (fun _ => rfl) (fun r_1 u_3 H locs hw_2 hP hD hS => ?_)
  refine hs_topi (hsb (hslt i mo_pe)) hw_2 ?_
  refine lv_if_eq (tgt := 28) hx hb dX8_sly_5 rfl (fun c_4 => ?_) (fun c_4 => ?_)
  · refine lv_iconst (v := (-1)) hx hb dX8_sly_28 hki_m1 ?_
    exact hs_iret hx hb hr hlocks hK hP hD hS af [0, 1, 2] rfl (hs_upnd rfl) dX8_sly_29 ((by rw [A_slyM, if_neg (by unfold A_two; rw [hs_n0 c_4]; simp)]))
  · obtain ⟨j1, hj1, rfl⟩ := hslt_ex (hs_nb c_4)
    refine lv_aload_n hx hb dX8_sly_8 rfl (lv_at hl 0 rfl) ?_
    refine lv_iload_n hx hb dX8_sly_9 rfl (lv_at hl 2 rfl) ?_
    refine hs_ciM (va_runV (As := [.int v]) (rest := []) ⟨hx, hb, hml, hown, hts⟩ (gm_isPerson l D k _ mo mo_st mo_at mo_isKept mo_pe mo_hm mo_draft mo_dp mo_dh mo_toldLines mo_highest mo_tape mo_tl mo_ps mo_fr mo_sort mo_value mo_ft mo_wrongAt mo_row mo_orderMany mo_fo mo_lightest mo_heaviest mo_before mo_justSum mo_toldSum mo_allWays mo_lanes mo_sizes mo_cells mo_torn mo_had v (by omega)) (cwV 1 hts gX8_sly_X8_isPerson rfl rfl rfl ⟨rfl, hq_X8_isPerson⟩ ⟨Nat.le_of_ble_eq_true rfl, Nat.le_of_ble_eq_true rfl⟩) (hs_preV hK hN (hs_subP (w := [_]) hP [0] rfl) (hD.sub (ws' := [_]) [0] (hs_upnd rfl) rfl) (ci := 7) (q0 := 0) rfl rfl) rfl rfl hl.1 rfl (lv_room (Nat.le_of_ble_eq_true rfl)) dX8_sly_10 ⟨Nat.le_of_ble_eq_true rfl, Nat.le_of_ble_eq_true rfl⟩) hP hD hS hA [false, true, true] [_, _] [_] rfl [0] rfl [0] (fun u_7 => [_]) (fun _ => rfl) (hs_upnd rfl) [false, true, true] (fun u_7 => [_, _, _]) (fun _ => rfl) (fun r_5 u_7 H locs hw_6 hP hD hS => ?_)
    refine hs_topi (hsb (hslt v mo_pe)) hw_6 ?_
    refine lv_if_eq (tgt := 28) hx hb dX8_sly_13 rfl (fun c_8 => ?_) (fun c_8 => ?_)
    · refine lv_iconst (v := (-1)) hx hb dX8_sly_28 hki_m1 ?_
      exact hs_iret hx hb hr hlocks hK hP hD hS af [0, 1, 2] rfl (hs_upnd rfl) dX8_sly_29 ((by rw [A_slyM, if_neg (by unfold A_two; rw [hs_n0 c_8]; simp)]))
    · obtain ⟨j2, hj2, rfl⟩ := hslt_ex (hs_nb c_8)
      refine lv_iload_n hx hb dX8_sly_16 rfl (lv_at hl 1 rfl) ?_
      refine lv_iload_n hx hb dX8_sly_17 rfl (lv_at hl 2 rfl) ?_
      refine lv_icmp_eq (tgt := 28) hx hb dX8_sly_18 rfl (fun c_9 => ?_) (fun c_9 => ?_)
      · have nc_9 : j1 = j2 := (nI_eq (a := j1) (b := j2) (by omega) (by omega)).mp c_9
        refine lv_iconst (v := (-1)) hx hb dX8_sly_28 hki_m1 ?_
        exact hs_iret hx hb hr hlocks hK hP hD hS af [0, 1, 2] rfl (hs_upnd rfl) dX8_sly_29 ((by rw [A_slyM, if_neg (by unfold A_two; rw [c_9]; simp)]))
      · have nc_9 : ¬ j1 = j2 := fun hq9 => c_9 ((nI_eq (a := j1) (b := j2) (by omega) (by omega)).mpr hq9)
        refine lv_iload_n hx hb dX8_sly_21 rfl (lv_at hl 3 rfl) ?_
        refine hs_pi (va_runS (As := [.int what]) (rest := []) ⟨hx, hb, hml, hown, hts⟩ (gm_isPart l D k _ what) (va_cwS 1 hts gX8_sly_X8_isPart rfl rfl rfl hq_X8_isPart ⟨Nat.le_of_ble_eq_true rfl, Nat.le_of_ble_eq_true rfl⟩) (hs_preS hK hN (hs_subP (w := []) hP [] rfl) (hD.sub (ws' := []) [] rfl rfl)) rfl rfl hl.1 rfl (lv_room (Nat.le_of_ble_eq_true rfl)) dX8_sly_22 ⟨Nat.le_of_ble_eq_true rfl, Nat.le_of_ble_eq_true rfl⟩) hP hD hS hA (fun r_10 u_12 H locs hw_11 hP hS => ?_)
        refine hs_topi (hsb (hsin what 0 1)) hw_11 ?_
        refine lv_if_ne (tgt := 30) hx hb dX8_sly_25 rfl (fun c_13 => ?_) (fun c_13 => ?_)
        · refine lv_aload_n hx hb dX8_sly_30 rfl (lv_at hl 0 rfl) ?_
          refine hs_cvM (va_runV (As := []) (rest := []) ⟨hx, hb, hml, hown, hts⟩ (gm_starts l D k _ mo mo_st mo_at mo_isKept mo_pe mo_hm mo_draft mo_dp mo_dh mo_toldLines mo_highest mo_tape mo_tl mo_ps mo_fr mo_sort mo_value mo_ft mo_wrongAt mo_row mo_orderMany mo_fo mo_lightest mo_heaviest mo_before mo_justSum mo_toldSum mo_allWays mo_lanes mo_sizes mo_cells mo_torn mo_had sf af) (cwV 0 hts gX8_sly_X8_starts rfl rfl rfl ⟨rfl, hq_X8_starts⟩ ⟨Nat.le_of_ble_eq_true rfl, Nat.le_of_ble_eq_true rfl⟩) (hs_preV hK hN (hs_subP (w := [_, _, _]) hP [0, 1, 2] rfl) (hD.sub (ws' := [_, _, _]) [0, 1, 2] (hs_upnd rfl) rfl) (ci := 7) (q0 := 0) rfl rfl) rfl rfl hl.1 rfl (lv_room (Nat.le_of_ble_eq_true rfl)) dX8_sly_31 ⟨Nat.le_of_ble_eq_true rfl, Nat.le_of_ble_eq_true rfl⟩) hP hD hS hA [false, false, false] [] [_, _, _] rfl [0, 1, 2] rfl [0, 1, 2] (fun u_16 => [_, _, _]) (fun _ => rfl) (hs_upnd rfl) [false, false, false] (fun u_16 => [_, _, _]) (fun _ => rfl) (fun u_16 H locs hw_15 hP hD hS => ?_)
          have hw_15 : ∀ j, j < 44 → u_16 j = sf j := hw_15
          have e0a : u_16 0 = nI c0 := (hw_15 0 (by decide)).trans e0
          have e3a : u_16 16 = nI c3 := (hw_15 16 (by decide)).trans e3
          have e4a : u_16 25 = nI c4 := (hw_15 25 (by decide)).trans e4
          have hw_15 : ∀ j, j < 44 → u_16 j = sf j := hw_15
          refine lv_iconst (v := (-1)) hx hb dX8_sly_34 hki_m1 ?_
          refine lv_istore (lv' := [(4, .int (-1)), (0, .ref mo), (1, .int (nI j1)), (2, .int (nI j2)), (3, .int what)]) hx hb dX8_sly_35 hl (Nat.le_of_ble_eq_true rfl) rfl (fun ls hl => ?_)
          refine lv_iconst (v := 1) hx hb dX8_sly_37 hki_1 ?_
          refine lv_istore (lv' := [(5, .int 1), (4, .int (-1)), (0, .ref mo), (1, .int (nI j1)), (2, .int (nI j2)), (3, .int what)]) hx hb dX8_sly_38 hl (Nat.le_of_ble_eq_true rfl) rfl (fun ls hl => ?_)
          refine lv_iconst (v := 1) hx hb dX8_sly_40 hki_1 ?_
          refine lv_istore (lv' := [(6, .int 1), (5, .int 1), (4, .int (-1)), (0, .ref mo), (1, .int (nI j1)), (2, .int (nI j2)), (3, .int what)]) hx hb dX8_sly_41 hl (Nat.le_of_ble_eq_true rfl) rfl (fun ls hl => ?_)
          refine hs_while (σ := Int32 × Int32 × Nat) (fun x => 1 ≤ x.2.2 ∧ x.2.2 - 1 ≤ c0 - 1 ∧ x.2.1 = (A_mxM (A_slM c0 sf j1 j2) (x.2.2 - 1)).1 ∧ x.1 = (A_mxM (A_slM c0 sf j1 j2) (x.2.2 - 1)).2) (fun x => c0 + 1 - x.2.2) (fun x => [oq7 mo mo_st mo_at mo_isKept (nI mo_pe) (nI mo_hm) mo_draft (nI mo_dp) (nI mo_dh) mo_toldLines mo_highest mo_tape (nI mo_tl) (nI mo_ps) (nI mo_fr) mo_sort mo_value (nI mo_ft) mo_wrongAt mo_row mo_orderMany (nI mo_fo) mo_lightest mo_heaviest mo_before mo_justSum mo_toldSum mo_allWays mo_lanes mo_sizes mo_cells mo_torn mo_had, oqI k mo_st 132 (sf), oqI k mo_at 44 (u_16)]) (fun x => [(6, .int (nI (x.2.2))), (5, .int (x.2.1)), (4, .int (x.1)), (0, .ref mo), (1, .int (nI j1)), (2, .int (nI j2)), (3, .int what)]) ?_ ((-1), 1, 1) ?_ hP hD hS hl
          · intro x hI ih43 H locs ls hP hD hS hl
            obtain ⟨mx, fo, kk⟩ := x
            try dsimp only at hI
            have hP : va_P D vwCl [_, _, _] H := hP
            have hD : va_D A [_, _, _] := hD
            have hl : lv_has ls 8 [(6, .int (nI kk)), (5, .int fo), (4, .int mx), (0, .ref mo), (1, .int (nI j1)), (2, .int (nI j2)), (3, .int what)] := hl
            refine lv_iload hx hb dX8_sly_43 (lv_at hl 0 rfl) ?_
            refine lv_aload_n hx hb dX8_sly_45 rfl (lv_at hl 3 rfl) ?_
            refine va_get (D := D) (ci := 7) (v := .ref mo_at) (C := RX8) (T := TX8) (N := 32) hx hb hts hiX8 hown hK hP 0 rfl rfl 1 (Nat.le_of_ble_eq_true rfl) fl13 (fun _ h9 => h9) rfl dX8_sly_46 ?_
            refine lv_iconst (v := 0) hx hb dX8_sly_49 hki_0 ?_
            refine va_iald hx hb hK hP 2 0 rfl rfl (hs_in (by decide)) dX8_sly_50 ?_
            refine hs_topi (nI c0) e0a ?_
            refine lv_icmp_ge (tgt := 113) hx hb dX8_sly_51 rfl (fun c_17 => ?_) (fun c_17 => ?_)
            · have nc_17 : c0 ≤ kk := (nI_leI (a := c0) (b := kk) (by omega) (by omega)).mp c_17
              refine lv_iload_n hx hb dX8_sly_113 rfl (lv_at hl 6 rfl) ?_
              refine lv_if_ne (tgt := 122) hx hb dX8_sly_114 rfl (fun c_18 => ?_) (fun c_18 => ?_)
              · refine lv_iload hx hb dX8_sly_122 (lv_at hl 2 rfl) ?_
                exact hs_iret hx hb hr hlocks hK hP hD hS u_16 [0, 1, 2] rfl (hs_upnd rfl) dX8_sly_124 ((by rw [A_slyM, if_pos (by unfold A_two; rw [hs_nb c_4, hs_nb c_8, hs_nb c_13, decide_eq_false c_9]; rfl), nI_clamp (by omega), nI_clamp (by omega), if_neg c_18, hI.2.2.2, show kk - 1 = c0 - 1 by omega]))
              · refine lv_iload hx hb dX8_sly_117 (lv_at hl 1 rfl) ?_
                refine lv_goto (tgt := 124) hx hb dX8_sly_119 rfl ?_
                exact hs_iret hx hb hr hlocks hK hP hD hS u_16 [0, 1, 2] rfl (hs_upnd rfl) dX8_sly_124 ((by rw [A_slyM, if_pos (by unfold A_two; rw [hs_nb c_4, hs_nb c_8, hs_nb c_13, decide_eq_false c_9]; rfl), nI_clamp (by omega), nI_clamp (by omega), if_pos c_18, hI.2.2.1, show kk - 1 = c0 - 1 by omega]))
            · have nc_17 : ¬ c0 ≤ kk := fun hq9 => c_17 ((nI_leI (a := c0) (b := kk) (by omega) (by omega)).mpr hq9)
              refine lv_aload_n hx hb dX8_sly_54 rfl (lv_at hl 3 rfl) ?_
              refine lv_iload_n hx hb dX8_sly_55 rfl (lv_at hl 4 rfl) ?_
              refine lv_aload_n hx hb dX8_sly_56 rfl (lv_at hl 3 rfl) ?_
              refine hs_ciM (va_runV (As := []) (rest := [.int (nI j1), .ref mo]) ⟨hx, hb, hml, hown, hts⟩ (gm_every l D k _ mo mo_st mo_at mo_isKept mo_pe mo_hm mo_draft mo_dp mo_dh mo_toldLines mo_highest mo_tape mo_tl mo_ps mo_fr mo_sort mo_value mo_ft mo_wrongAt mo_row mo_orderMany mo_fo mo_lightest mo_heaviest mo_before mo_justSum mo_toldSum mo_allWays mo_lanes mo_sizes mo_cells mo_torn mo_had u_16 c0 (by first | exact e0a | exact e0) (by omega)) (cwV 0 hts gX8_sly_X8_every rfl rfl rfl ⟨rfl, hq_X8_every⟩ ⟨Nat.le_of_ble_eq_true rfl, Nat.le_of_ble_eq_true rfl⟩) (hs_preV hK hN (hs_subP (w := [_, _]) hP [0, 2] rfl) (hD.sub (ws' := [_, _]) [0, 2] (hs_upnd rfl) rfl) (ci := 7) (q0 := 0) rfl rfl) rfl rfl hl.1 rfl (lv_room (Nat.le_of_ble_eq_true rfl)) dX8_sly_57 ⟨Nat.le_of_ble_eq_true rfl, Nat.le_of_ble_eq_true rfl⟩) hP hD hS hA [false, true, false] [_] [_, _] rfl [0, 1] rfl [0, 1] (fun u_21 => [_, _]) (fun _ => rfl) (hs_upnd rfl) [false, true, false] (fun u_21 => [_, _, _]) (fun _ => rfl) (fun r_19 u_21 H locs hw_20 hP hD hS => ?_)
              refine hs_topi (nI (2 ^ c0 - 1)) hw_20 ?_
              refine lv_aload_n hx hb dX8_sly_60 rfl (lv_at hl 3 rfl) ?_
              refine lv_iload_n hx hb dX8_sly_61 rfl (lv_at hl 5 rfl) ?_
              refine lv_iload hx hb dX8_sly_62 (lv_at hl 0 rfl) ?_
              refine hs_ciM (va_runV (As := [.int (nI j2), .int (nI kk)]) (rest := [.int (nI (2 ^ c0 - 1)), .int (nI j1), .ref mo]) ⟨hx, hb, hml, hown, hts⟩ (gr_takenBy l D k _ mo mo_st mo_at mo_isKept mo_pe mo_hm mo_draft mo_dp mo_dh mo_toldLines mo_highest mo_tape mo_tl mo_ps mo_fr mo_sort mo_value mo_ft mo_wrongAt mo_row mo_orderMany mo_fo mo_lightest mo_heaviest mo_before mo_justSum mo_toldSum mo_allWays mo_lanes mo_sizes mo_cells mo_torn mo_had u_16 c0 j2 (nI kk) (by first | exact e0a | exact e0) (by omega) (by omega)) (cwV 2 hts gX8_sly_X8_takenBy rfl rfl rfl ⟨rfl, hq_X8_takenBy⟩ ⟨Nat.le_of_ble_eq_true rfl, Nat.le_of_ble_eq_true rfl⟩) (hs_preV hK hN (hs_subP (w := [_, _]) hP [0, 2] rfl) (hD.sub (ws' := [_, _]) [0, 2] (hs_upnd rfl) rfl) (ci := 7) (q0 := 0) rfl rfl) rfl rfl hl.1 rfl (lv_room (Nat.le_of_ble_eq_true rfl)) dX8_sly_64 ⟨Nat.le_of_ble_eq_true rfl, Nat.le_of_ble_eq_true rfl⟩) hP hD hS hA [false, true, false] [_] [_, _] rfl [0, 1] rfl [0, 1] (fun u_24 => [_, _]) (fun _ => rfl) (hs_upnd rfl) [false, true, false] (fun u_24 => [_, _, _]) (fun _ => rfl) (fun r_22 u_24 H locs hw_23 hP hD hS => ?_)
              refine hs_topi (A_chM (A_fm u_16 j2) c0 (nI kk)) hw_23 ?_
              refine lv_iconst (v := (-1)) hx hb dX8_sly_67 hki_m1 ?_
              refine lv_ixor hx hb dX8_sly_68 ?_
              refine lv_iand hx hb dX8_sly_69 ?_
              refine hs_ciM (va_runV (As := [.int (nI j1), .int ((nI (2 ^ c0 - 1)) &&& ((A_chM (A_fm u_16 j2) c0 (nI kk)) ^^^ (-1)))]) (rest := []) ⟨hx, hb, hml, hown, hts⟩ (gr_worthOfAll l D k _ mo mo_st mo_at mo_isKept mo_pe mo_hm mo_draft mo_dp mo_dh mo_toldLines mo_highest mo_tape mo_tl mo_ps mo_fr mo_sort mo_value mo_ft mo_wrongAt mo_row mo_orderMany mo_fo mo_lightest mo_heaviest mo_before mo_justSum mo_toldSum mo_allWays mo_lanes mo_sizes mo_cells mo_torn mo_had u_16 c0 j1 ((nI (2 ^ c0 - 1)) &&& ((A_chM (A_fm u_16 j2) c0 (nI kk)) ^^^ (-1))) (by first | exact e0a | exact e0) (by omega) (by omega)) (cwV 2 hts gX8_sly_X8_worthOfAll rfl rfl rfl ⟨rfl, hq_X8_worthOfAll⟩ ⟨Nat.le_of_ble_eq_true rfl, Nat.le_of_ble_eq_true rfl⟩) (hs_preV hK hN (hs_subP (w := [_, _]) hP [0, 2] rfl) (hD.sub (ws' := [_, _]) [0, 2] (hs_upnd rfl) rfl) (ci := 7) (q0 := 0) rfl rfl) rfl rfl hl.1 rfl (lv_room (Nat.le_of_ble_eq_true rfl)) dX8_sly_70 ⟨Nat.le_of_ble_eq_true rfl, Nat.le_of_ble_eq_true rfl⟩) hP hD hS hA [false, true, false] [_] [_, _] rfl [0, 1] rfl [0, 1] (fun u_27 => [_, _]) (fun _ => rfl) (hs_upnd rfl) [false, true, false] (fun u_27 => [_, _, _]) (fun _ => rfl) (fun r_25 u_27 H locs hw_26 hP hD hS => ?_)
              refine hs_topi (A_ws (A_fm u_16 j1) ((nI (2 ^ c0 - 1)) &&& ((A_chM (A_fm u_16 j2) c0 (nI kk)) ^^^ (-1))) c0) hw_26 ?_
              refine lv_istore (lv' := [(7, .int (A_ws (A_fm u_16 j1) ((nI (2 ^ c0 - 1)) &&& ((A_chM (A_fm u_16 j2) c0 (nI kk)) ^^^ (-1))) c0)), (6, .int (nI kk)), (5, .int fo), (4, .int mx), (0, .ref mo), (1, .int (nI j1)), (2, .int (nI j2)), (3, .int what)]) hx hb dX8_sly_73 hl (Nat.le_of_ble_eq_true rfl) rfl (fun ls hl => ?_)
              refine lv_iload hx hb dX8_sly_75 (lv_at hl 0 rfl) ?_
              refine lv_iload hx hb dX8_sly_77 (lv_at hl 3 rfl) ?_
              refine lv_icmp_le (tgt := 87) hx hb dX8_sly_79 rfl (fun c_28 => ?_) (fun c_28 => ?_)
              · refine lv_iload hx hb dX8_sly_87 (lv_at hl 2 rfl) ?_
                refine lv_istore (lv' := [(5, .int fo), (7, .int (A_ws (A_fm u_16 j1) ((nI (2 ^ c0 - 1)) &&& ((A_chM (A_fm u_16 j2) c0 (nI kk)) ^^^ (-1))) c0)), (6, .int (nI kk)), (4, .int mx), (0, .ref mo), (1, .int (nI j1)), (2, .int (nI j2)), (3, .int what)]) hx hb dX8_sly_89 hl (Nat.le_of_ble_eq_true rfl) rfl (fun ls hl => ?_)
                refine lv_iload hx hb dX8_sly_91 (lv_at hl 1 rfl) ?_
                refine lv_iload hx hb dX8_sly_93 (lv_at hl 3 rfl) ?_
                refine lv_icmp_le (tgt := 103) hx hb dX8_sly_95 rfl (fun c_29 => ?_) (fun c_29 => ?_)
                · refine lv_iload hx hb dX8_sly_103 (lv_at hl 3 rfl) ?_
                  refine lv_istore (lv' := [(4, .int mx), (5, .int fo), (7, .int (A_ws (A_fm u_16 j1) ((nI (2 ^ c0 - 1)) &&& ((A_chM (A_fm u_16 j2) c0 (nI kk)) ^^^ (-1))) c0)), (6, .int (nI kk)), (0, .ref mo), (1, .int (nI j1)), (2, .int (nI j2)), (3, .int what)]) hx hb dX8_sly_105 hl (Nat.le_of_ble_eq_true rfl) rfl (fun ls hl => ?_)
                  refine lv_iinc (v := nI (kk + 1)) (lv' := [(6, .int (nI (kk + 1))), (4, .int mx), (5, .int fo), (7, .int (A_ws (A_fm u_16 j1) ((nI (2 ^ c0 - 1)) &&& ((A_chM (A_fm u_16 j2) c0 (nI kk)) ^^^ (-1))) c0)), (0, .ref mo), (1, .int (nI j1)), (2, .int (nI j2)), (3, .int what)]) hx hb dX8_sly_107 hl (k := 3) rfl (nI_add (kk) 1) (Nat.le_of_ble_eq_true rfl) rfl (fun ls hl => ?_)
                  refine lv_goto (tgt := 43) hx hb dX8_sly_110 rfl ?_
                  exact ih43 (mx, fo, kk + 1) (by (try dsimp only); exact ⟨by omega, by omega, by rw [A_mxM_s _ hI.1, if_neg (show ¬ (A_mxM (A_slM c0 sf j1 j2) (kk - 1)).2 < (A_slM c0 sf j1 j2) kk by rw [← hI.2.2.2, ← A_slM_congr (by omega) (by omega) (by omega) (fun x hx => hw_15 x (by omega)) kk]; exact Int32.not_lt.mpr c_28)]; exact hI.2.2.1, by rw [A_mxM_s _ hI.1, if_neg (show ¬ (A_mxM (A_slM c0 sf j1 j2) (kk - 1)).2 < (A_slM c0 sf j1 j2) kk by rw [← hI.2.2.2, ← A_slM_congr (by omega) (by omega) (by omega) (fun x hx => hw_15 x (by omega)) kk]; exact Int32.not_lt.mpr c_28)]; exact hI.2.2.2⟩) (by (try dsimp only); omega) _ _ _ hP hD hS (lv_sub hl [0, 2, 1, 4, 5, 6, 7] rfl)
                · refine lv_iload hx hb dX8_sly_98 (lv_at hl 1 rfl) ?_
                  refine lv_goto (tgt := 105) hx hb dX8_sly_100 rfl ?_
                  refine lv_istore (lv' := [(4, .int (A_ws (A_fm u_16 j1) ((nI (2 ^ c0 - 1)) &&& ((A_chM (A_fm u_16 j2) c0 (nI kk)) ^^^ (-1))) c0)), (5, .int fo), (7, .int (A_ws (A_fm u_16 j1) ((nI (2 ^ c0 - 1)) &&& ((A_chM (A_fm u_16 j2) c0 (nI kk)) ^^^ (-1))) c0)), (6, .int (nI kk)), (0, .ref mo), (1, .int (nI j1)), (2, .int (nI j2)), (3, .int what)]) hx hb dX8_sly_105 hl (Nat.le_of_ble_eq_true rfl) rfl (fun ls hl => ?_)
                  refine lv_iinc (v := nI (kk + 1)) (lv' := [(6, .int (nI (kk + 1))), (4, .int (A_ws (A_fm u_16 j1) ((nI (2 ^ c0 - 1)) &&& ((A_chM (A_fm u_16 j2) c0 (nI kk)) ^^^ (-1))) c0)), (5, .int fo), (7, .int (A_ws (A_fm u_16 j1) ((nI (2 ^ c0 - 1)) &&& ((A_chM (A_fm u_16 j2) c0 (nI kk)) ^^^ (-1))) c0)), (0, .ref mo), (1, .int (nI j1)), (2, .int (nI j2)), (3, .int what)]) hx hb dX8_sly_107 hl (k := 3) rfl (nI_add (kk) 1) (Nat.le_of_ble_eq_true rfl) rfl (fun ls hl => ?_)
                  refine lv_goto (tgt := 43) hx hb dX8_sly_110 rfl ?_
                  exact ih43 (A_ws (A_fm u_16 j1) ((nI (2 ^ c0 - 1)) &&& ((A_chM (A_fm u_16 j2) c0 (nI kk)) ^^^ (-1))) c0, fo, kk + 1) (by (try dsimp only); exact absurd c_28 c_29) (by (try dsimp only); omega) _ _ _ hP hD hS (lv_sub hl [0, 2, 1, 4, 5, 6, 7] rfl)
              · refine lv_iload hx hb dX8_sly_82 (lv_at hl 1 rfl) ?_
                refine lv_goto (tgt := 89) hx hb dX8_sly_84 rfl ?_
                refine lv_istore (lv' := [(5, .int (nI kk)), (7, .int (A_ws (A_fm u_16 j1) ((nI (2 ^ c0 - 1)) &&& ((A_chM (A_fm u_16 j2) c0 (nI kk)) ^^^ (-1))) c0)), (6, .int (nI kk)), (4, .int mx), (0, .ref mo), (1, .int (nI j1)), (2, .int (nI j2)), (3, .int what)]) hx hb dX8_sly_89 hl (Nat.le_of_ble_eq_true rfl) rfl (fun ls hl => ?_)
                refine lv_iload hx hb dX8_sly_91 (lv_at hl 1 rfl) ?_
                refine lv_iload hx hb dX8_sly_93 (lv_at hl 3 rfl) ?_
                refine lv_icmp_le (tgt := 103) hx hb dX8_sly_95 rfl (fun c_30 => ?_) (fun c_30 => ?_)
                · refine lv_iload hx hb dX8_sly_103 (lv_at hl 3 rfl) ?_
                  refine lv_istore (lv' := [(4, .int mx), (5, .int (nI kk)), (7, .int (A_ws (A_fm u_16 j1) ((nI (2 ^ c0 - 1)) &&& ((A_chM (A_fm u_16 j2) c0 (nI kk)) ^^^ (-1))) c0)), (6, .int (nI kk)), (0, .ref mo), (1, .int (nI j1)), (2, .int (nI j2)), (3, .int what)]) hx hb dX8_sly_105 hl (Nat.le_of_ble_eq_true rfl) rfl (fun ls hl => ?_)
                  refine lv_iinc (v := nI (kk + 1)) (lv' := [(6, .int (nI (kk + 1))), (4, .int mx), (5, .int (nI kk)), (7, .int (A_ws (A_fm u_16 j1) ((nI (2 ^ c0 - 1)) &&& ((A_chM (A_fm u_16 j2) c0 (nI kk)) ^^^ (-1))) c0)), (0, .ref mo), (1, .int (nI j1)), (2, .int (nI j2)), (3, .int what)]) hx hb dX8_sly_107 hl (k := 3) rfl (nI_add (kk) 1) (Nat.le_of_ble_eq_true rfl) rfl (fun ls hl => ?_)
                  refine lv_goto (tgt := 43) hx hb dX8_sly_110 rfl ?_
                  exact ih43 (mx, nI kk, kk + 1) (by (try dsimp only); exact absurd c_30 c_28) (by (try dsimp only); omega) _ _ _ hP hD hS (lv_sub hl [0, 2, 1, 4, 5, 6, 7] rfl)
                · refine lv_iload hx hb dX8_sly_98 (lv_at hl 1 rfl) ?_
                  refine lv_goto (tgt := 105) hx hb dX8_sly_100 rfl ?_
                  refine lv_istore (lv' := [(4, .int (A_ws (A_fm u_16 j1) ((nI (2 ^ c0 - 1)) &&& ((A_chM (A_fm u_16 j2) c0 (nI kk)) ^^^ (-1))) c0)), (5, .int (nI kk)), (7, .int (A_ws (A_fm u_16 j1) ((nI (2 ^ c0 - 1)) &&& ((A_chM (A_fm u_16 j2) c0 (nI kk)) ^^^ (-1))) c0)), (6, .int (nI kk)), (0, .ref mo), (1, .int (nI j1)), (2, .int (nI j2)), (3, .int what)]) hx hb dX8_sly_105 hl (Nat.le_of_ble_eq_true rfl) rfl (fun ls hl => ?_)
                  refine lv_iinc (v := nI (kk + 1)) (lv' := [(6, .int (nI (kk + 1))), (4, .int (A_ws (A_fm u_16 j1) ((nI (2 ^ c0 - 1)) &&& ((A_chM (A_fm u_16 j2) c0 (nI kk)) ^^^ (-1))) c0)), (5, .int (nI kk)), (7, .int (A_ws (A_fm u_16 j1) ((nI (2 ^ c0 - 1)) &&& ((A_chM (A_fm u_16 j2) c0 (nI kk)) ^^^ (-1))) c0)), (0, .ref mo), (1, .int (nI j1)), (2, .int (nI j2)), (3, .int what)]) hx hb dX8_sly_107 hl (k := 3) rfl (nI_add (kk) 1) (Nat.le_of_ble_eq_true rfl) rfl (fun ls hl => ?_)
                  refine lv_goto (tgt := 43) hx hb dX8_sly_110 rfl ?_
                  exact ih43 (A_ws (A_fm u_16 j1) ((nI (2 ^ c0 - 1)) &&& ((A_chM (A_fm u_16 j2) c0 (nI kk)) ^^^ (-1))) c0, nI kk, kk + 1) (by (try dsimp only); exact ⟨by omega, by omega, by rw [A_mxM_s _ hI.1, if_pos (show (A_mxM (A_slM c0 sf j1 j2) (kk - 1)).2 < (A_slM c0 sf j1 j2) kk by rw [← hI.2.2.2, ← A_slM_congr (by omega) (by omega) (by omega) (fun x hx => hw_15 x (by omega)) kk]; exact Int32.not_le.mp c_28)]; try rfl, by rw [A_mxM_s _ hI.1, if_pos (show (A_mxM (A_slM c0 sf j1 j2) (kk - 1)).2 < (A_slM c0 sf j1 j2) kk by rw [← hI.2.2.2, ← A_slM_congr (by omega) (by omega) (by omega) (fun x hx => hw_15 x (by omega)) kk]; exact Int32.not_le.mp c_28)]; exact A_slM_congr (by omega) (by omega) (by omega) (fun x hx => hw_15 x (by omega)) kk⟩) (by (try dsimp only); omega) _ _ _ hP hD hS (lv_sub hl [0, 2, 1, 4, 5, 6, 7] rfl)
          · (try dsimp only); exact ⟨by decide, by omega, rfl, rfl⟩
        · refine lv_iconst (v := (-1)) hx hb dX8_sly_28 hki_m1 ?_
          exact hs_iret hx hb hr hlocks hK hP hD hS af [0, 1, 2] rfl (hs_upnd rfl) dX8_sly_29 ((by rw [A_slyM, if_neg (by rw [hs_n0 c_13, Bool.and_false]; decide)]))
