set_option maxHeartbeats 4000000 in
set_option maxRecDepth 100000 in
theorem gpf_person (l : Launch) (D : va_G) (k : Nat → ClassId) (sz : Nat) (h : Nat) (h_now : Nat) (h_trial : Nat) (h_images : Nat) (h_imageThere : Nat) (h_teller : Nat) (h_ranks : Nat) (h_court : Nat) (h_sheets : Nat) (h_lf : Int32) (h_lt : Int32) (n_a : Nat → Nat) (n_N : Nat → Nat) (n_J : Nat → Int32) (n_F : Nat → Nat → Int32) (i : Int32) (hN0 : thN n_N) (hF : thF n_N n_F) (h2 : 2 ≤ n_N 0) : MI l yX7_person wsX7_person ({ frames := 2, cells := 0, slots := 0, locals := 43 }) D k [.ref h, .int i] [oq6 h h_now h_trial h_images h_imageThere h_teller h_ranks h_court h_sheets h_lf h_lt, oqT h_now n_a n_N n_J, oqF0 k n_a n_F, oqF1 k n_a n_F, oqF2 k n_a n_F, oqF3 k n_a n_F, oqF4 k n_a n_F, oqF5 k n_a n_F, oqF6 k n_a n_F] sz (fun (r : Int32) (u : Unit) => r = A_cellQ (n_N 1) (n_F 1) i) (fun (u : Unit) => [oq6 h h_now h_trial h_images h_imageThere h_teller h_ranks h_court h_sheets h_lf h_lt, oqT h_now n_a n_N n_J, oqF0 k n_a n_F, oqF1 k n_a n_F, oqF2 k n_a n_F, oqF3 k n_a n_F, oqF4 k n_a n_F, oqF5 k n_a n_F, oqF6 k n_a n_F]) := by
  refine Met.ofW (cc := cX7_person) (maxL := 2) (ret := (some .int)) hpn_X7 rfl ?_
  intro p e s m args below meth c s₁ B hml hv
  obtain ⟨rfl, hsz, hP, hK, hD0, hN⟩ := hv
  have hx := B.exec
  have hb := B.bytes
  have hr := B.returns
  have hlocks := B.notSynchronized
  have hts := atoms_spec (ws := wsX7_person) B.pre
  have hown := findClass_of_methodNamed B.named
  have hown : s.vm.findClass RX7 = some m.cls := hown
  have hiX6 : ∀ w ∈ u_ws RX6 TX6 15, w ∈ wsX7_person := fun w9 hw9 => List.mem_cons_of_mem _ (igX6 w9 hw9)
  have hiX7 : ∀ w ∈ u_ws RX7 TX7 10, w ∈ wsX7_person := fun w9 hw9 => List.mem_cons_of_mem _ (igX7 w9 hw9)
  have fl10 := hts (.fieldLink RX7 10 "HalfScales" "now" "LHalfScales$Thing;") (List.mem_cons_of_mem _ (hs_inG 1 215 rfl rfl))
  have fl128 := hts (.fieldLink RX7 128 "HalfScales$Thing" "kindOf" "[I") (List.mem_cons_of_mem _ (hs_inG 1 39 rfl rfl))
  have hNn := hN0
  obtain ⟨I0, I1, ⟨I2, I2b⟩, I3, I4⟩ := hN0
  subst hsz
  have hD := hD0.self (sz := s.heap.size)
  generalize hAe : va_A [oq6 h h_now h_trial h_images h_imageThere h_teller h_ranks h_court h_sheets h_lf h_lt, oqT h_now n_a n_N n_J, oqF0 k n_a n_F, oqF1 k n_a n_F, oqF2 k n_a n_F, oqF3 k n_a n_F, oqF4 k n_a n_F, oqF5 k n_a n_F, oqF6 k n_a n_F] s.heap.size = A at hD ⊢
  have hA : ∀ q : Nat, s.heap.size ≤ q → A q := fun q h => by rw [← hAe]; exact Or.inr h
  have hS : va_S A s.heap s.heap [] := va_S.rf
  have hl := lv_entry ([.ref h, .int i]) (n := 2) (Nat.le_of_ble_eq_true rfl)
  rw [lg_entry_eq]
  generalize (lg_sl ([.ref h, .int i]) ++ List.replicate (2 - (lg_sl ([.ref h, .int i])).length) Slot.unset).toArray = ls at hl ⊢
  have hl : lv_has ls 2 [(0, .ref h), (1, .int i)] := hl
  have hP : va_P D vwCl [oq6 h h_now h_trial h_images h_imageThere h_teller h_ranks h_court h_sheets h_lf h_lt, oqT h_now n_a n_N n_J, oqF0 k n_a n_F, oqF1 k n_a n_F, oqF2 k n_a n_F, oqF3 k n_a n_F, oqF4 k n_a n_F, oqF5 k n_a n_F, oqF6 k n_a n_F] s.heap := hP
  refine lv_aload_n hx hb dX7_person_0 rfl (lv_at hl 0 rfl) ?_
  refine va_get (D := D) (ci := 6) (v := .ref h_now) (C := RX7) (T := TX7) (N := 10) hx hb hts hiX7 hown hK hP 0 rfl rfl 0 (Nat.le_of_ble_eq_true rfl) fl10 (fun _ h9 => h9) rfl dX7_person_1 ?_
  refine lv_iload_n hx hb dX7_person_4 rfl (lv_at hl 1 rfl) ?_
  refine hs_ciM (va_runV (As := [.int i]) (rest := []) ⟨hx, hb, hml, hown, hts⟩ (g_isPerson l D k _ h_now n_a n_N n_J i (by first | assumption | exact ⟨by first | omega | (dsimp; omega), by first | omega | (dsimp; omega), ⟨by first | omega | (dsimp; omega), by first | omega | (dsimp; omega)⟩, by first | omega | (dsimp; omega), by first | omega | (dsimp; omega)⟩)) (cwV 1 hts gX7_person_X6_isPerson rfl rfl rfl ⟨rfl, hq_X6_isPerson⟩ ⟨Nat.le_of_ble_eq_true rfl, Nat.le_of_ble_eq_true rfl⟩) (hs_preV hK hN (hs_subP (w := [_]) hP [1] rfl) (hD.sub (ws' := [_]) [1] (hs_upnd rfl) rfl) (ci := 5) (q0 := 0) rfl rfl) rfl rfl hl.1 rfl (lv_room (Nat.le_of_ble_eq_true rfl)) dX7_person_5 ⟨Nat.le_of_ble_eq_true rfl, Nat.le_of_ble_eq_true rfl⟩) hP hD hS hA [true, false, true, true, true, true, true, true, true] [_, _, _, _, _, _, _, _] [_] rfl [0] rfl [0] (fun u_3 => [_]) (fun _ => rfl) (hs_upnd rfl) [true, false, true, true, true, true, true, true, true] (fun u_3 => [_, _, _, _, _, _, _, _, _]) (fun _ => rfl) (fun r_1 u_3 H locs hw_2 hP hD hS => ?_)
  refine hs_topi (hsb (hslt i (n_N 1))) hw_2 ?_
  refine lv_if_eq (tgt := 23) hx hb dX7_person_8 rfl (fun c_4 => ?_) (fun c_4 => ?_)
  · refine lv_iconst (v := (-1)) hx hb dX7_person_23 hki_m1 ?_
    exact hs_iret hx hb hr hlocks hK hP hD hS () [0, 1, 2, 3, 4, 5, 6, 7, 8] rfl (hs_upnd rfl) dX7_person_24 ((by rw [A_cellQ, if_neg (by rw [hs_n0 c_4]; decide)]))
  · obtain ⟨j_5, hj_5, rfl⟩ := hslt_ex (hs_nb c_4)
    refine lv_aload_n hx hb dX7_person_11 rfl (lv_at hl 0 rfl) ?_
    refine va_get (D := D) (ci := 6) (v := .ref h_now) (C := RX7) (T := TX7) (N := 10) hx hb hts hiX7 hown hK hP 0 rfl rfl 0 (Nat.le_of_ble_eq_true rfl) fl10 (fun _ h9 => h9) rfl dX7_person_12 ?_
    refine va_get (D := D) (ci := 5) (v := .ref (n_a 1)) (C := RX6) (T := TX6) (N := 15) hx hb hts hiX6 hown hK hP 1 rfl rfl 1 (Nat.le_of_ble_eq_true rfl) fl128 (fun _ h9 => h9) rfl dX7_person_15 ?_
    refine lv_iload_n hx hb dX7_person_18 rfl (lv_at hl 1 rfl) ?_
    refine va_iald hx hb hK hP 3 0 rfl rfl (vp_in_nI (show j_5 < 4 by omega) (by decide)) dX7_person_19 ?_
    refine lv_goto (tgt := 24) hx hb dX7_person_20 rfl ?_
    exact hs_iret hx hb hr hlocks hK hP hD hS () [0, 1, 2, 3, 4, 5, 6, 7, 8] rfl (hs_upnd rfl) dX7_person_24 ((by rw [A_cellQ, if_pos (hs_nb c_4)]))

set_option maxHeartbeats 4000000 in
set_option maxRecDepth 100000 in
theorem gqf_person (l : Launch) (D : va_G) (k : Nat → ClassId) (sz : Nat) (mo : Nat) (mo_st : Nat) (mo_at : Nat) (mo_isKept : Nat) (mo_pe : Nat) (mo_hm : Nat) (mo_draft : Nat) (mo_dp : Nat) (mo_dh : Nat) (mo_toldLines : Int32) (mo_highest : Int32) (mo_tape : Nat) (mo_tl : Nat) (mo_ps : Nat) (mo_fr : Nat) (mo_sort : Int32) (mo_value : Int32) (mo_ft : Nat) (mo_wrongAt : Int32) (mo_row : Nat) (mo_orderMany : Int32) (mo_fo : Nat) (mo_lightest : Int32) (mo_heaviest : Int32) (mo_before : Nat) (mo_justSum : Int64) (mo_toldSum : Int64) (mo_allWays : Int64) (mo_lanes : Nat) (mo_sizes : Nat) (mo_cells : Nat) (mo_torn : Int32) (mo_had : Nat) (sf : Nat → Int32) (c0 : Nat) (c3 : Nat) (c4 : Nat) (fi : Nat) (i : Int32) (e0 : sf 0 = nI c0) (h0 : c0 ≤ 8) (h02 : 2 ≤ c0) (e3 : sf 16 = nI c3) (h3 : c3 ≤ 8) (e4 : sf 25 = nI c4) (h4 : c4 ≤ 6) (hpe : mo_pe ≤ 4) (hm2 : 2 ≤ mo_hm) (hm5 : mo_hm ≤ 5) (ef : sf 14 = nI fi) (hfi : fi ≤ 99) (hsaw : ∀ i, i < c4 → vp_in (sf (26 + 3 * i)) 4) : MI l yX8_person wsX8_person ({ frames := 2, cells := 0, slots := 0, locals := 46 }) D k [.ref mo, .int i] [oq7 mo mo_st mo_at mo_isKept (nI mo_pe) (nI mo_hm) mo_draft (nI mo_dp) (nI mo_dh) mo_toldLines mo_highest mo_tape (nI mo_tl) (nI mo_ps) (nI mo_fr) mo_sort mo_value (nI mo_ft) mo_wrongAt mo_row mo_orderMany (nI mo_fo) mo_lightest mo_heaviest mo_before mo_justSum mo_toldSum mo_allWays mo_lanes mo_sizes mo_cells mo_torn mo_had, oqI k mo_st 132 (sf)] sz (fun (r : Int32) (u : Unit) => r = A_cellM mo_pe 9 sf i) (fun (u : Unit) => [oq7 mo mo_st mo_at mo_isKept (nI mo_pe) (nI mo_hm) mo_draft (nI mo_dp) (nI mo_dh) mo_toldLines mo_highest mo_tape (nI mo_tl) (nI mo_ps) (nI mo_fr) mo_sort mo_value (nI mo_ft) mo_wrongAt mo_row mo_orderMany (nI mo_fo) mo_lightest mo_heaviest mo_before mo_justSum mo_toldSum mo_allWays mo_lanes mo_sizes mo_cells mo_torn mo_had, oqI k mo_st 132 (sf)]) := by
  refine Met.ofW (cc := cX8_person) (maxL := 2) (ret := (some .int)) hpn_X8 rfl ?_
  intro p e s m args below meth c s₁ B hml hv
  obtain ⟨rfl, hsz, hP, hK, hD0, hN⟩ := hv
  have hx := B.exec
  have hb := B.bytes
  have hr := B.returns
  have hlocks := B.notSynchronized
  have hts := atoms_spec (ws := wsX8_person) B.pre
  have hown := findClass_of_methodNamed B.named
  have hown : s.vm.findClass RX8 = some m.cls := hown
  have hiX8 : ∀ w ∈ u_ws RX8 TX8 32, w ∈ wsX8_person := fun w9 hw9 => List.mem_cons_of_mem _ (igX8 w9 hw9)
  have fl7 := hts (.fieldLink RX8 7 "HalfScalesModel" "st" "[I") (List.mem_cons_of_mem _ (hs_inG 4 80 rfl rfl))
  subst hsz
  have hD := hD0.self (sz := s.heap.size)
  generalize hAe : va_A [oq7 mo mo_st mo_at mo_isKept (nI mo_pe) (nI mo_hm) mo_draft (nI mo_dp) (nI mo_dh) mo_toldLines mo_highest mo_tape (nI mo_tl) (nI mo_ps) (nI mo_fr) mo_sort mo_value (nI mo_ft) mo_wrongAt mo_row mo_orderMany (nI mo_fo) mo_lightest mo_heaviest mo_before mo_justSum mo_toldSum mo_allWays mo_lanes mo_sizes mo_cells mo_torn mo_had, oqI k mo_st 132 (sf)] s.heap.size = A at hD ⊢
  have hA : ∀ q : Nat, s.heap.size ≤ q → A q := fun q h => by rw [← hAe]; exact Or.inr h
  have hS : va_S A s.heap s.heap [] := va_S.rf
  have hl := lv_entry ([.ref mo, .int i]) (n := 2) (Nat.le_of_ble_eq_true rfl)
  rw [lg_entry_eq]
  generalize (lg_sl ([.ref mo, .int i]) ++ List.replicate (2 - (lg_sl ([.ref mo, .int i])).length) Slot.unset).toArray = ls at hl ⊢
  have hl : lv_has ls 2 [(0, .ref mo), (1, .int i)] := hl
  have hP : va_P D vwCl [oq7 mo mo_st mo_at mo_isKept (nI mo_pe) (nI mo_hm) mo_draft (nI mo_dp) (nI mo_dh) mo_toldLines mo_highest mo_tape (nI mo_tl) (nI mo_ps) (nI mo_fr) mo_sort mo_value (nI mo_ft) mo_wrongAt mo_row mo_orderMany (nI mo_fo) mo_lightest mo_heaviest mo_before mo_justSum mo_toldSum mo_allWays mo_lanes mo_sizes mo_cells mo_torn mo_had, oqI k mo_st 132 (sf)] s.heap := hP
  refine lv_aload_n hx hb dX8_person_0 rfl (lv_at hl 0 rfl) ?_
  refine lv_iload_n hx hb dX8_person_1 rfl (lv_at hl 1 rfl) ?_
  refine hs_ciM (va_runV (As := [.int i]) (rest := []) ⟨hx, hb, hml, hown, hts⟩ (gm_isPerson l D k _ mo mo_st mo_at mo_isKept mo_pe mo_hm mo_draft mo_dp mo_dh mo_toldLines mo_highest mo_tape mo_tl mo_ps mo_fr mo_sort mo_value mo_ft mo_wrongAt mo_row mo_orderMany mo_fo mo_lightest mo_heaviest mo_before mo_justSum mo_toldSum mo_allWays mo_lanes mo_sizes mo_cells mo_torn mo_had i (by omega)) (cwV 1 hts gX8_person_X8_isPerson rfl rfl rfl ⟨rfl, hq_X8_isPerson⟩ ⟨Nat.le_of_ble_eq_true rfl, Nat.le_of_ble_eq_true rfl⟩) (hs_preV hK hN (hs_subP (w := [_]) hP [0] rfl) (hD.sub (ws' := [_]) [0] (hs_upnd rfl) rfl) (ci := 7) (q0 := 0) rfl rfl) rfl rfl hl.1 rfl (lv_room (Nat.le_of_ble_eq_true rfl)) dX8_person_2 ⟨Nat.le_of_ble_eq_true rfl, Nat.le_of_ble_eq_true rfl⟩) hP hD hS hA [false, true] [_] [_] rfl [0] rfl [0] (fun u_3 => [_]) (fun _ => rfl) (hs_upnd rfl) [false, true] (fun u_3 => [_, _]) (fun _ => rfl) (fun r_1 u_3 H locs hw_2 hP hD hS => ?_)
  refine hs_topi (hsb (hslt i mo_pe)) hw_2 ?_
  refine lv_if_eq (tgt := 20) hx hb dX8_person_5 rfl (fun c_4 => ?_) (fun c_4 => ?_)
  · refine lv_iconst (v := (-1)) hx hb dX8_person_20 hki_m1 ?_
    exact hs_iret hx hb hr hlocks hK hP hD hS () [0, 1] rfl (hs_upnd rfl) dX8_person_21 ((by rw [A_cellM, if_neg (by rw [hs_n0 c_4]; decide)]))
  · obtain ⟨j_5, hj_5, rfl⟩ := hslt_ex (hs_nb c_4)
    refine lv_aload_n hx hb dX8_person_8 rfl (lv_at hl 0 rfl) ?_
    refine va_get (D := D) (ci := 7) (v := .ref mo_st) (C := RX8) (T := TX8) (N := 32) hx hb hts hiX8 hown hK hP 0 rfl rfl 0 (Nat.le_of_ble_eq_true rfl) fl7 (fun _ h9 => h9) rfl dX8_person_9 ?_
    refine lv_bipush (v := 9) hx hb dX8_person_12 hkb_9 ?_
    refine lv_iload_n hx hb dX8_person_14 rfl (lv_at hl 1 rfl) ?_
    refine lv_iadd hx hb dX8_person_15 ?_
    refine hs_topi (nI (9 + j_5)) (nI_add (9) (j_5)) ?_
    refine va_iald hx hb hK hP 1 0 rfl rfl (vp_in_nI (show (9 + j_5) < 132 by omega) (by decide)) dX8_person_16 ?_
    refine lv_goto (tgt := 21) hx hb dX8_person_17 rfl ?_
    exact hs_iret hx hb hr hlocks hK hP hD hS () [0, 1] rfl (hs_upnd rfl) dX8_person_21 ((by rw [A_cellM, if_pos (hs_nb c_4), nI_clamp (by omega), nI_clamp (by omega)]))
