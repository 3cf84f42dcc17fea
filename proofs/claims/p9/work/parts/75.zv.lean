set_option maxHeartbeats 4000000 in
set_option maxRecDepth 100000 in
theorem gpf_pair (l : Launch) (D : va_G) (k : Nat → ClassId) (sz : Nat) (h : Nat) (h_now : Nat) (h_trial : Nat) (h_images : Nat) (h_imageThere : Nat) (h_teller : Nat) (h_ranks : Nat) (h_court : Nat) (h_sheets : Nat) (h_lf : Int32) (h_lt : Int32) (n_a : Nat → Nat) (n_N : Nat → Nat) (n_J : Nat → Int32) (n_F : Nat → Nat → Int32) (i : Int32) (hN0 : thN n_N) (hF : thF n_N n_F) (h2 : 2 ≤ n_N 0) : MI l yX7_pair wsX7_pair ({ frames := 1, cells := 0, slots := 0, locals := 22 }) D k [.ref h, .int i] [oq6 h h_now h_trial h_images h_imageThere h_teller h_ranks h_court h_sheets h_lf h_lt, oqT h_now n_a n_N n_J, oqF0 k n_a n_F, oqF1 k n_a n_F, oqF2 k n_a n_F, oqF3 k n_a n_F, oqF4 k n_a n_F, oqF5 k n_a n_F, oqF6 k n_a n_F] sz (fun (r : Int32) (u : Unit) => r = A_cellQ (n_N 3) (fun j => 10 * n_F 2 j + n_F 3 j) i) (fun (u : Unit) => [oq6 h h_now h_trial h_images h_imageThere h_teller h_ranks h_court h_sheets h_lf h_lt, oqT h_now n_a n_N n_J, oqF0 k n_a n_F, oqF1 k n_a n_F, oqF2 k n_a n_F, oqF3 k n_a n_F, oqF4 k n_a n_F, oqF5 k n_a n_F, oqF6 k n_a n_F]) := by
  refine Met.ofW (cc := cX7_pair) (maxL := 2) (ret := (some .int)) hpn_X7 rfl ?_
  intro p e s m args below meth c s₁ B hml hv
  obtain ⟨rfl, hsz, hP, hK, hD0, hN⟩ := hv
  have hx := B.exec
  have hb := B.bytes
  have hr := B.returns
  have hlocks := B.notSynchronized
  have hts := atoms_spec (ws := wsX7_pair) B.pre
  have hown := findClass_of_methodNamed B.named
  have hown : s.vm.findClass RX7 = some m.cls := hown
  have hiX6 : ∀ w ∈ u_ws RX6 TX6 15, w ∈ wsX7_pair := fun w9 hw9 => List.mem_cons_of_mem _ (igX6 w9 hw9)
  have hiX7 : ∀ w ∈ u_ws RX7 TX7 10, w ∈ wsX7_pair := fun w9 hw9 => List.mem_cons_of_mem _ (igX7 w9 hw9)
  have fl10 := hts (.fieldLink RX7 10 "HalfScales" "now" "LHalfScales$Thing;") (List.mem_cons_of_mem _ (hs_inG 1 215 rfl rfl))
  have fl111 := hts (.fieldLink RX7 111 "HalfScales$Thing" "pairCount" "I") (List.mem_cons_of_mem _ (hs_inG 1 75 rfl rfl))
  have fl131 := hts (.fieldLink RX7 131 "HalfScales$Thing" "light" "[I") (List.mem_cons_of_mem _ (hs_inG 1 42 rfl rfl))
  have fl134 := hts (.fieldLink RX7 134 "HalfScales$Thing" "heavy" "[I") (List.mem_cons_of_mem _ (hs_inG 1 46 rfl rfl))
  have hNn := hN0
  obtain ⟨I0, I1, ⟨I2, I2b⟩, I3, I4⟩ := hN0
  subst hsz
  have hD := hD0.self (sz := s.heap.size)
  generalize hAe : va_A [oq6 h h_now h_trial h_images h_imageThere h_teller h_ranks h_court h_sheets h_lf h_lt, oqT h_now n_a n_N n_J, oqF0 k n_a n_F, oqF1 k n_a n_F, oqF2 k n_a n_F, oqF3 k n_a n_F, oqF4 k n_a n_F, oqF5 k n_a n_F, oqF6 k n_a n_F] s.heap.size = A at hD ⊢
  have hA : ∀ q : Nat, s.heap.size ≤ q → A q := fun q h => by rw [← hAe]; exact Or.inr h
  have hS : va_S A s.heap s.heap [] := va_S.rf
  have hl := lv_entry ([.ref h, .int i]) (n := 2) (Nat.le_of_ble_eq_true rfl)
  rw [lg_entry_eq]
  generalize (lg_sl ([.ref h, .int i]) ++ List.replicate (2 - (lg_sl ([.ref h, .int i])).length) Slot.unset).toArray = ls at hl ⊢
  have hl : lv_has ls 2 [(0, .ref h), (1, .int i)] := hl
  have hP : va_P D vwCl [oq6 h h_now h_trial h_images h_imageThere h_teller h_ranks h_court h_sheets h_lf h_lt, oqT h_now n_a n_N n_J, oqF0 k n_a n_F, oqF1 k n_a n_F, oqF2 k n_a n_F, oqF3 k n_a n_F, oqF4 k n_a n_F, oqF5 k n_a n_F, oqF6 k n_a n_F] s.heap := hP
  refine lv_iload_n hx hb dX7_pair_0 rfl (lv_at hl 1 rfl) ?_
  refine lv_iconst (v := 0) hx hb dX7_pair_1 hki_0 ?_
  refine lv_aload_n hx hb dX7_pair_2 rfl (lv_at hl 0 rfl) ?_
  refine va_get (D := D) (ci := 6) (v := .ref h_now) (C := RX7) (T := TX7) (N := 10) hx hb hts hiX7 hown hK hP 0 rfl rfl 0 (Nat.le_of_ble_eq_true rfl) fl10 (fun _ h9 => h9) rfl dX7_pair_3 ?_
  refine va_get (D := D) (ci := 5) (v := .int (nI (n_N 3))) (C := RX6) (T := TX6) (N := 15) hx hb hts hiX6 hown hK hP 1 rfl rfl 13 (Nat.le_of_ble_eq_true rfl) fl111 (fun _ h9 => h9) rfl dX7_pair_6 ?_
  refine lv_iconst (v := 1) hx hb dX7_pair_9 hki_1 ?_
  refine lv_isub hx hb dX7_pair_10 ?_
  refine hs_pi (va_runS (As := [.int i, .int 0, .int ((nI (n_N 3)) - 1)]) (rest := []) ⟨hx, hb, hml, hown, hts⟩ (g_within l D k _ i 0 ((nI (n_N 3)) - 1)) (va_cwS 3 hts gX7_pair_X7_within rfl rfl rfl hq_X7_within ⟨Nat.le_of_ble_eq_true rfl, Nat.le_of_ble_eq_true rfl⟩) (hs_preS hK hN (hs_subP (w := []) hP [] rfl) (hD.sub (ws' := []) [] rfl rfl)) rfl rfl hl.1 rfl (lv_room (Nat.le_of_ble_eq_true rfl)) dX7_pair_11 ⟨Nat.le_of_ble_eq_true rfl, Nat.le_of_ble_eq_true rfl⟩) hP hD hS hA (fun r_1 u_3 H locs hw_2 hP hS => ?_)
  refine hs_topi (hsb (hsin i 0 ((nI (n_N 3)) - 1))) hw_2 ?_
  refine lv_if_ne (tgt := 19) hx hb dX7_pair_14 rfl (fun c_4 => ?_) (fun c_4 => ?_)
  · have hpf := (hslt_in (show n_N 3 < 2 ^ 30 by omega)).symm.trans (hs_nb c_4)
    obtain ⟨jp, hjp, rfl⟩ := hslt_ex hpf
    refine lv_bipush (v := 10) hx hb dX7_pair_19 hkb_10 ?_
    refine lv_aload_n hx hb dX7_pair_21 rfl (lv_at hl 0 rfl) ?_
    refine va_get (D := D) (ci := 6) (v := .ref h_now) (C := RX7) (T := TX7) (N := 10) hx hb hts hiX7 hown hK hP 0 rfl rfl 0 (Nat.le_of_ble_eq_true rfl) fl10 (fun _ h9 => h9) rfl dX7_pair_22 ?_
    refine va_get (D := D) (ci := 5) (v := .ref (n_a 2)) (C := RX6) (T := TX6) (N := 15) hx hb hts hiX6 hown hK hP 1 rfl rfl 2 (Nat.le_of_ble_eq_true rfl) fl131 (fun _ h9 => h9) rfl dX7_pair_25 ?_
    refine lv_iload_n hx hb dX7_pair_28 rfl (lv_at hl 1 rfl) ?_
    refine va_iald hx hb hK hP 4 0 rfl rfl (vp_in_nI (show jp < 8 by omega) (by decide)) dX7_pair_29 ?_
    refine lv_imul hx hb dX7_pair_30 ?_
    refine lv_aload_n hx hb dX7_pair_31 rfl (lv_at hl 0 rfl) ?_
    refine va_get (D := D) (ci := 6) (v := .ref h_now) (C := RX7) (T := TX7) (N := 10) hx hb hts hiX7 hown hK hP 0 rfl rfl 0 (Nat.le_of_ble_eq_true rfl) fl10 (fun _ h9 => h9) rfl dX7_pair_32 ?_
    refine va_get (D := D) (ci := 5) (v := .ref (n_a 3)) (C := RX6) (T := TX6) (N := 15) hx hb hts hiX6 hown hK hP 1 rfl rfl 3 (Nat.le_of_ble_eq_true rfl) fl134 (fun _ h9 => h9) rfl dX7_pair_35 ?_
    refine lv_iload_n hx hb dX7_pair_38 rfl (lv_at hl 1 rfl) ?_
    refine va_iald hx hb hK hP 5 0 rfl rfl (vp_in_nI (show jp < 8 by omega) (by decide)) dX7_pair_39 ?_
    refine lv_iadd hx hb dX7_pair_40 ?_
    exact hs_iret hx hb hr hlocks hK hP hD hS () [0, 1, 2, 3, 4, 5, 6, 7, 8] rfl (hs_upnd rfl) dX7_pair_41 ((by rw [A_cellQ, if_pos hpf]))
  · refine lv_iconst (v := (-1)) hx hb dX7_pair_17 hki_m1 ?_
    exact hs_iret hx hb hr hlocks hK hP hD hS () [0, 1, 2, 3, 4, 5, 6, 7, 8] rfl (hs_upnd rfl) dX7_pair_18 ((by rw [A_cellQ, if_neg (by rw [← hslt_in (show n_N 3 < 2 ^ 30 by omega), hs_n0 c_4]; decide)]))

set_option maxHeartbeats 4000000 in
set_option maxRecDepth 100000 in
theorem gqf_pair (l : Launch) (D : va_G) (k : Nat → ClassId) (sz : Nat) (mo : Nat) (mo_st : Nat) (mo_at : Nat) (mo_isKept : Nat) (mo_pe : Nat) (mo_hm : Nat) (mo_draft : Nat) (mo_dp : Nat) (mo_dh : Nat) (mo_toldLines : Int32) (mo_highest : Int32) (mo_tape : Nat) (mo_tl : Nat) (mo_ps : Nat) (mo_fr : Nat) (mo_sort : Int32) (mo_value : Int32) (mo_ft : Nat) (mo_wrongAt : Int32) (mo_row : Nat) (mo_orderMany : Int32) (mo_fo : Nat) (mo_lightest : Int32) (mo_heaviest : Int32) (mo_before : Nat) (mo_justSum : Int64) (mo_toldSum : Int64) (mo_allWays : Int64) (mo_lanes : Nat) (mo_sizes : Nat) (mo_cells : Nat) (mo_torn : Int32) (mo_had : Nat) (sf : Nat → Int32) (c0 : Nat) (c3 : Nat) (c4 : Nat) (fi : Nat) (i : Int32) (e0 : sf 0 = nI c0) (h0 : c0 ≤ 8) (h02 : 2 ≤ c0) (e3 : sf 16 = nI c3) (h3 : c3 ≤ 8) (e4 : sf 25 = nI c4) (h4 : c4 ≤ 6) (hpe : mo_pe ≤ 4) (hm2 : 2 ≤ mo_hm) (hm5 : mo_hm ≤ 5) (ef : sf 14 = nI fi) (hfi : fi ≤ 99) (hsaw : ∀ i, i < c4 → vp_in (sf (26 + 3 * i)) 4) : MI l yX8_pair wsX8_pair ({ frames := 1, cells := 0, slots := 0, locals := 25 }) D k [.ref mo, .int i] [oq7 mo mo_st mo_at mo_isKept (nI mo_pe) (nI mo_hm) mo_draft (nI mo_dp) (nI mo_dh) mo_toldLines mo_highest mo_tape (nI mo_tl) (nI mo_ps) (nI mo_fr) mo_sort mo_value (nI mo_ft) mo_wrongAt mo_row mo_orderMany (nI mo_fo) mo_lightest mo_heaviest mo_before mo_justSum mo_toldSum mo_allWays mo_lanes mo_sizes mo_cells mo_torn mo_had, oqI k mo_st 132 (sf)] sz (fun (r : Int32) (u : Unit) => r = A_cellM c3 17 sf i) (fun (u : Unit) => [oq7 mo mo_st mo_at mo_isKept (nI mo_pe) (nI mo_hm) mo_draft (nI mo_dp) (nI mo_dh) mo_toldLines mo_highest mo_tape (nI mo_tl) (nI mo_ps) (nI mo_fr) mo_sort mo_value (nI mo_ft) mo_wrongAt mo_row mo_orderMany (nI mo_fo) mo_lightest mo_heaviest mo_before mo_justSum mo_toldSum mo_allWays mo_lanes mo_sizes mo_cells mo_torn mo_had, oqI k mo_st 132 (sf)]) := by
  refine Met.ofW (cc := cX8_pair) (maxL := 2) (ret := (some .int)) hpn_X8 rfl ?_
  intro p e s m args below meth c s₁ B hml hv
  obtain ⟨rfl, hsz, hP, hK, hD0, hN⟩ := hv
  have hx := B.exec
  have hb := B.bytes
  have hr := B.returns
  have hlocks := B.notSynchronized
  have hts := atoms_spec (ws := wsX8_pair) B.pre
  have hown := findClass_of_methodNamed B.named
  have hown : s.vm.findClass RX8 = some m.cls := hown
  have hiX8 : ∀ w ∈ u_ws RX8 TX8 32, w ∈ wsX8_pair := fun w9 hw9 => List.mem_cons_of_mem _ (igX8 w9 hw9)
  have fl7 := hts (.fieldLink RX8 7 "HalfScalesModel" "st" "[I") (List.mem_cons_of_mem _ (hs_inG 4 80 rfl rfl))
  subst hsz
  have hD := hD0.self (sz := s.heap.size)
  generalize hAe : va_A [oq7 mo mo_st mo_at mo_isKept (nI mo_pe) (nI mo_hm) mo_draft (nI mo_dp) (nI mo_dh) mo_toldLines mo_highest mo_tape (nI mo_tl) (nI mo_ps) (nI mo_fr) mo_sort mo_value (nI mo_ft) mo_wrongAt mo_row mo_orderMany (nI mo_fo) mo_lightest mo_heaviest mo_before mo_justSum mo_toldSum mo_allWays mo_lanes mo_sizes mo_cells mo_torn mo_had, oqI k mo_st 132 (sf)] s.heap.size = A at hD ⊢
  have hA : ∀ q : Nat, s.heap.size ≤ q → A q := fun q h => by rw [← hAe]; exact Or.inr h
  have hS : va_S A s.heap s.heap [] := va_S.rf
  have hl := lv_entry ([.ref mo, .int i]) (n := 2) (Nat.le_of_ble_eq_true rfl)
  rw [lg_entry_eq]
  generalize (lg_sl ([.ref mo, .int i]) ++ List.replicate (2 - (lg_sl ([.ref mo, .int i])).length) Slot.unset).toArray = ls at hl ⊢
  have hl : lv_has ls 2 [(0, .ref mo), (1, .int i)] := hl
  have hP : va_P D vwCl [oq7 mo mo_st mo_at mo_isKept (nI mo_pe) (nI mo_hm) mo_draft (nI mo_dp) (nI mo_dh) mo_toldLines mo_highest mo_tape (nI mo_tl) (nI mo_ps) (nI mo_fr) mo_sort mo_value (nI mo_ft) mo_wrongAt mo_row mo_orderMany (nI mo_fo) mo_lightest mo_heaviest mo_before mo_justSum mo_toldSum mo_allWays mo_lanes mo_sizes mo_cells mo_torn mo_had, oqI k mo_st 132 (sf)] s.heap := hP
  refine lv_iload_n hx hb dX8_pair_0 rfl (lv_at hl 1 rfl) ?_
  refine lv_i2l hx hb dX8_pair_1 rfl ?_
  refine lv_lconst (v := 0) hx hb dX8_pair_2 (by decide) ?_
  refine lv_aload_n hx hb dX8_pair_3 rfl (lv_at hl 0 rfl) ?_
  refine va_get (D := D) (ci := 7) (v := .ref mo_st) (C := RX8) (T := TX8) (N := 32) hx hb hts hiX8 hown hK hP 0 rfl rfl 0 (Nat.le_of_ble_eq_true rfl) fl7 (fun _ h9 => h9) rfl dX8_pair_4 ?_
  refine lv_bipush (v := 16) hx hb dX8_pair_7 hkb_16 ?_
  refine va_iald hx hb hK hP 1 0 rfl rfl (hs_in (by decide)) dX8_pair_9 ?_
  refine hs_topi (nI c3) e3 ?_
  refine lv_iconst (v := 1) hx hb dX8_pair_10 hki_1 ?_
  refine lv_isub hx hb dX8_pair_11 ?_
  refine lv_i2l hx hb dX8_pair_12 rfl ?_
  refine hs_pi (va_runS (As := [.long (((i) : Int32).toInt64), .long 0, .long ((((nI c3) - 1) : Int32).toInt64)]) (rest := []) ⟨hx, hb, hml, hown, hts⟩ (gm_in l D k _ i 0 ((nI c3) - 1)) (va_cwS 3 hts gX8_pair_X8_in rfl rfl rfl hq_X8_in ⟨Nat.le_of_ble_eq_true rfl, Nat.le_of_ble_eq_true rfl⟩) (hs_preS hK hN (hs_subP (w := []) hP [] rfl) (hD.sub (ws' := []) [] rfl rfl)) rfl rfl hl.1 rfl (lv_room (Nat.le_of_ble_eq_true rfl)) dX8_pair_13 ⟨Nat.le_of_ble_eq_true rfl, Nat.le_of_ble_eq_true rfl⟩) hP hD hS hA (fun r_1 u_3 H locs hw_2 hP hS => ?_)
  refine hs_topi (hsb (hsin i 0 ((nI c3) - 1))) hw_2 ?_
  refine lv_if_eq (tgt := 31) hx hb dX8_pair_16 rfl (fun c_4 => ?_) (fun c_4 => ?_)
  · refine lv_iconst (v := (-1)) hx hb dX8_pair_31 hki_m1 ?_
    exact hs_iret hx hb hr hlocks hK hP hD hS () [0, 1] rfl (hs_upnd rfl) dX8_pair_32 ((by rw [A_cellM, if_neg (by rw [← hslt_in (show c3 < 2 ^ 30 by omega), hs_n0 c_4]; decide)]))
  · have hpf := (hslt_in (show c3 < 2 ^ 30 by omega)).symm.trans (hs_nb c_4)
    obtain ⟨jp, hjp, rfl⟩ := hslt_ex hpf
    refine lv_aload_n hx hb dX8_pair_19 rfl (lv_at hl 0 rfl) ?_
    refine va_get (D := D) (ci := 7) (v := .ref mo_st) (C := RX8) (T := TX8) (N := 32) hx hb hts hiX8 hown hK hP 0 rfl rfl 0 (Nat.le_of_ble_eq_true rfl) fl7 (fun _ h9 => h9) rfl dX8_pair_20 ?_
    refine lv_bipush (v := 17) hx hb dX8_pair_23 hkb_17 ?_
    refine lv_iload_n hx hb dX8_pair_25 rfl (lv_at hl 1 rfl) ?_
    refine lv_iadd hx hb dX8_pair_26 ?_
    refine hs_topi (nI (17 + jp)) (nI_add (17) (jp)) ?_
    refine va_iald hx hb hK hP 1 0 rfl rfl (vp_in_nI (show (17 + jp) < 132 by omega) (by decide)) dX8_pair_27 ?_
    refine lv_goto (tgt := 32) hx hb dX8_pair_28 rfl ?_
    exact hs_iret hx hb hr hlocks hK hP hD hS () [0, 1] rfl (hs_upnd rfl) dX8_pair_32 ((by rw [A_cellM, if_pos hpf, nI_clamp (by omega), nI_clamp (by omega)]))
