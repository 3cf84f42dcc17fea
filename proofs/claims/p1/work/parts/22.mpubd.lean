set_option maxHeartbeats 4000000 in
set_option maxRecDepth 100000 in
theorem q_fits (l : Launch) (D : va_G) (k : Nat → ClassId) (sz : Nat) (mo : Nat) (mo_st : Nat) (mo_at : Nat) (mo_isKept : Nat) (mo_draft : Nat) (mo_tape : Nat) (mo_row : Nat) (mo_before : Nat) (mo_lanes : Nat) (mo_sizes : Nat) (mo_cells : Nat) (mo_had : Nat) (i : Int32)  : MI l yX8_fits wsX8_fits ({ frames := 2, cells := 0, slots := 0, locals := 46 }) D k [.ref mo, .int i] [(mo, .inr (7, [.ref mo_st, .ref mo_at, .ref mo_isKept, .int 0, .int 2, .ref mo_draft, .int 0, .int 2, .int 0, .int (-4), .ref mo_tape, .int 0, .int 0, .int 0, .int 0, .int 0, .int 0, .int 0, .ref mo_row, .int 0, .int 0, .int 0, .int 0, .ref mo_before, .long 0, .long 0, .long 0, .ref mo_lanes, .ref mo_sizes, .ref mo_cells, .int 0, .ref mo_had])), (mo_st, .inl (k 0, 132, .inl (hst))), (mo_at, .inl (k 0, 44, .inl (hsz)))] sz (fun (r : Int32) (u : Unit) => r = A_fits i) (fun (u : Unit) => []) := by
  refine Met.ofW (cc := cX8_fits) (maxL := 4) (ret := (some .int)) (by decide) rfl ?_
  intro p e s m args below meth c s₁ B hml hv
  obtain ⟨rfl, hsz, hP, hK, hD0, hN⟩ := hv
  have hx := B.exec
  have hb := B.bytes
  have hr := B.returns
  have hlocks := B.notSynchronized
  have hts := atoms_spec (ws := wsX8_fits) B.pre
  have hown : s.vm.findClass RX8 = some m.cls := findClass_of_methodNamed B.named
  have hiX8 : ∀ w ∈ u_ws RX8 TX8 32, w ∈ wsX8_fits := by decide +kernel
  have fl13 := hts (.fieldLink RX8 13 "HalfScalesModel" "at" "[I") (by decide +kernel)
  subst hsz
  have hD := hD0.self (sz := s.heap.size)
  generalize hAe : va_A [(mo, .inr (7, [.ref mo_st, .ref mo_at, .ref mo_isKept, .int 0, .int 2, .ref mo_draft, .int 0, .int 2, .int 0, .int (-4), .ref mo_tape, .int 0, .int 0, .int 0, .int 0, .int 0, .int 0, .int 0, .ref mo_row, .int 0, .int 0, .int 0, .int 0, .ref mo_before, .long 0, .long 0, .long 0, .ref mo_lanes, .ref mo_sizes, .ref mo_cells, .int 0, .ref mo_had])), (mo_st, .inl (k 0, 132, .inl (hst))), (mo_at, .inl (k 0, 44, .inl (hsz)))] s.heap.size = A at hD ⊢
  have hA : ∀ q : Nat, s.heap.size ≤ q → A q := fun q h => by rw [← hAe]; exact Or.inr h
  have hS : va_S A s.heap s.heap [] := va_S.rf
  have hl := lv_entry ([.ref mo, .int i]) (n := 4) (Nat.le_of_ble_eq_true rfl)
  rw [lg_entry_eq]
  generalize (lg_sl ([.ref mo, .int i]) ++ List.replicate (4 - (lg_sl ([.ref mo, .int i])).length) Slot.unset).toArray = ls at hl ⊢
  have hl : lv_has ls 4 [(0, .ref mo), (1, .int i)] := hl
  have hP : va_P D vwCl [(mo, .inr (7, [.ref mo_st, .ref mo_at, .ref mo_isKept, .int 0, .int 2, .ref mo_draft, .int 0, .int 2, .int 0, .int (-4), .ref mo_tape, .int 0, .int 0, .int 0, .int 0, .int 0, .int 0, .int 0, .ref mo_row, .int 0, .int 0, .int 0, .int 0, .ref mo_before, .long 0, .long 0, .long 0, .ref mo_lanes, .ref mo_sizes, .ref mo_cells, .int 0, .ref mo_had])), (mo_st, .inl (k 0, 132, .inl (hst))), (mo_at, .inl (k 0, 44, .inl (hsz)))] s.heap := hP
  refine lv_aload_n hx hb dX8_fits_0 rfl (lv_at hl 0 rfl) ?_
  refine lv_iload_n hx hb dX8_fits_1 rfl (lv_at hl 1 rfl) ?_
  refine hs_ci (va_runV (As := [.int i]) (rest := []) ⟨hx, hb, hml, hown, hts⟩ (m_isCell0 l D k _ mo mo_st mo_at mo_isKept mo_draft mo_tape mo_row mo_before mo_lanes mo_sizes mo_cells mo_had i) (cwV 1 hts gX8_fits_X8_isCell rfl rfl rfl (by decide +kernel) ⟨Nat.le_of_ble_eq_true rfl, Nat.le_of_ble_eq_true rfl⟩) (hs_preV hK hN (hs_subP (w := [(mo, .inr (7, [.ref mo_st, .ref mo_at, .ref mo_isKept, .int 0, .int 2, .ref mo_draft, .int 0, .int 2, .int 0, .int (-4), .ref mo_tape, .int 0, .int 0, .int 0, .int 0, .int 0, .int 0, .int 0, .ref mo_row, .int 0, .int 0, .int 0, .int 0, .ref mo_before, .long 0, .long 0, .long 0, .ref mo_lanes, .ref mo_sizes, .ref mo_cells, .int 0, .ref mo_had])), (mo_st, .inl (k 0, 132, .inl (hst)))]) hP [0, 1] rfl) (hD.sub (ws' := [(mo, .inr (7, [.ref mo_st, .ref mo_at, .ref mo_isKept, .int 0, .int 2, .ref mo_draft, .int 0, .int 2, .int 0, .int (-4), .ref mo_tape, .int 0, .int 0, .int 0, .int 0, .int 0, .int 0, .int 0, .ref mo_row, .int 0, .int 0, .int 0, .int 0, .ref mo_before, .long 0, .long 0, .long 0, .ref mo_lanes, .ref mo_sizes, .ref mo_cells, .int 0, .ref mo_had])), (mo_st, .inl (k 0, 132, .inl (hst)))]) [0, 1] (by decide) rfl) (ci := 7) (q0 := 0) rfl rfl) rfl rfl hl.1 rfl (lv_room (Nat.le_of_ble_eq_true rfl)) dX8_fits_2 ⟨Nat.le_of_ble_eq_true rfl, Nat.le_of_ble_eq_true rfl⟩) hP hD hS hA [0, 1] [2] [(mo_at, .inl (k 0, 44, .inl (hsz)))] rfl rfl (by decide) (by decide) [1, 2, 0] (fun u_3 => [(mo, .inr (7, [.ref mo_st, .ref mo_at, .ref mo_isKept, .int 0, .int 2, .ref mo_draft, .int 0, .int 2, .int 0, .int (-4), .ref mo_tape, .int 0, .int 0, .int 0, .int 0, .int 0, .int 0, .int 0, .ref mo_row, .int 0, .int 0, .int 0, .int 0, .ref mo_before, .long 0, .long 0, .long 0, .ref mo_lanes, .ref mo_sizes, .ref mo_cells, .int 0, .ref mo_had])), (mo_st, .inl (k 0, 132, .inl (hst))), (mo_at, .inl (k 0, 44, .inl (hsz)))]) (fun _ => rfl) (by decide) (fun r_1 u_3 H locs hw_2 hP hD hS => ?_)
  have hP : va_P D vwCl [(mo, .inr (7, [.ref mo_st, .ref mo_at, .ref mo_isKept, .int 0, .int 2, .ref mo_draft, .int 0, .int 2, .int 0, .int (-4), .ref mo_tape, .int 0, .int 0, .int 0, .int 0, .int 0, .int 0, .int 0, .ref mo_row, .int 0, .int 0, .int 0, .int 0, .ref mo_before, .long 0, .long 0, .long 0, .ref mo_lanes, .ref mo_sizes, .ref mo_cells, .int 0, .ref mo_had])), (mo_st, .inl (k 0, 132, .inl (hst))), (mo_at, .inl (k 0, 44, .inl (hsz)))] H := hP
  have hD : va_D A [(mo, .inr (7, [.ref mo_st, .ref mo_at, .ref mo_isKept, .int 0, .int 2, .ref mo_draft, .int 0, .int 2, .int 0, .int (-4), .ref mo_tape, .int 0, .int 0, .int 0, .int 0, .int 0, .int 0, .int 0, .ref mo_row, .int 0, .int 0, .int 0, .int 0, .ref mo_before, .long 0, .long 0, .long 0, .ref mo_lanes, .ref mo_sizes, .ref mo_cells, .int 0, .ref mo_had])), (mo_st, .inl (k 0, 132, .inl (hst))), (mo_at, .inl (k 0, 44, .inl (hsz)))] := hD
  refine hs_topi (hsb (hsin i 0 1)) hw_2 ?_
  refine lv_if_ne (tgt := 10) hx hb dX8_fits_5 (by decide) (fun c_4 => ?_) (fun c_4 => ?_)
  · rcases hs_v01 (hs_nb c_4) with rfl | rfl
    · refine lv_iconst (v := 0) hx hb dX8_fits_10 (by decide) ?_
      refine lv_istore_n (lv' := [(2, .int 0), (0, .ref mo), (1, .int 0)]) hx hb dX8_fits_11 rfl hl (by decide) rfl (fun ls hl => ?_)
      refine lv_aload_n hx hb dX8_fits_12 rfl (lv_at hl 1 rfl) ?_
      refine hs_cv (va_runV (As := []) (rest := []) ⟨hx, hb, hml, hown, hts⟩ (m_starts l D k _ mo mo_st mo_at mo_isKept 0 2 mo_draft 0 2 0 (-4) mo_tape 0 0 0 0 0 0 0 mo_row 0 0 0 0 mo_before 0 0 0 mo_lanes mo_sizes mo_cells 0 mo_had) (cwV 0 hts gX8_fits_X8_starts rfl rfl rfl (by decide +kernel) ⟨Nat.le_of_ble_eq_true rfl, Nat.le_of_ble_eq_true rfl⟩) (hs_preV hK hN (hs_subP (w := [(mo, .inr (7, [.ref mo_st, .ref mo_at, .ref mo_isKept, .int 0, .int 2, .ref mo_draft, .int 0, .int 2, .int 0, .int (-4), .ref mo_tape, .int 0, .int 0, .int 0, .int 0, .int 0, .int 0, .int 0, .ref mo_row, .int 0, .int 0, .int 0, .int 0, .ref mo_before, .long 0, .long 0, .long 0, .ref mo_lanes, .ref mo_sizes, .ref mo_cells, .int 0, .ref mo_had])), (mo_st, .inl (k 0, 132, .inl (hst))), (mo_at, .inl (k 0, 44, .inl (hsz)))]) hP [0, 1, 2] rfl) (hD.sub (ws' := [(mo, .inr (7, [.ref mo_st, .ref mo_at, .ref mo_isKept, .int 0, .int 2, .ref mo_draft, .int 0, .int 2, .int 0, .int (-4), .ref mo_tape, .int 0, .int 0, .int 0, .int 0, .int 0, .int 0, .int 0, .ref mo_row, .int 0, .int 0, .int 0, .int 0, .ref mo_before, .long 0, .long 0, .long 0, .ref mo_lanes, .ref mo_sizes, .ref mo_cells, .int 0, .ref mo_had])), (mo_st, .inl (k 0, 132, .inl (hst))), (mo_at, .inl (k 0, 44, .inl (hsz)))]) [0, 1, 2] (by decide) rfl) (ci := 7) (q0 := 0) rfl rfl) rfl rfl hl.1 rfl (lv_room (Nat.le_of_ble_eq_true rfl)) dX8_fits_13 ⟨Nat.le_of_ble_eq_true rfl, Nat.le_of_ble_eq_true rfl⟩) hP hD hS hA [0, 1, 2] [] [] rfl rfl (by decide) (by decide) [0, 1, 2] (fun u_7 => [(mo, .inr (7, [.ref mo_st, .ref mo_at, .ref mo_isKept, .int 0, .int 2, .ref mo_draft, .int 0, .int 2, .int 0, .int (-4), .ref mo_tape, .int 0, .int 0, .int 0, .int 0, .int 0, .int 0, .int 0, .ref mo_row, .int 0, .int 0, .int 0, .int 0, .ref mo_before, .long 0, .long 0, .long 0, .ref mo_lanes, .ref mo_sizes, .ref mo_cells, .int 0, .ref mo_had])), (mo_st, .inl (k 0, 132, .inl (hst))), (mo_at, .inl (k 0, 44, .inl (hst)))]) (fun _ => rfl) (by decide) (fun u_7 H locs hw_6 hP hD hS => ?_)
      have hP : va_P D vwCl [(mo, .inr (7, [.ref mo_st, .ref mo_at, .ref mo_isKept, .int 0, .int 2, .ref mo_draft, .int 0, .int 2, .int 0, .int (-4), .ref mo_tape, .int 0, .int 0, .int 0, .int 0, .int 0, .int 0, .int 0, .ref mo_row, .int 0, .int 0, .int 0, .int 0, .ref mo_before, .long 0, .long 0, .long 0, .ref mo_lanes, .ref mo_sizes, .ref mo_cells, .int 0, .ref mo_had])), (mo_st, .inl (k 0, 132, .inl (hst))), (mo_at, .inl (k 0, 44, .inl (hst)))] H := hP
      have hD : va_D A [(mo, .inr (7, [.ref mo_st, .ref mo_at, .ref mo_isKept, .int 0, .int 2, .ref mo_draft, .int 0, .int 2, .int 0, .int (-4), .ref mo_tape, .int 0, .int 0, .int 0, .int 0, .int 0, .int 0, .int 0, .ref mo_row, .int 0, .int 0, .int 0, .int 0, .ref mo_before, .long 0, .long 0, .long 0, .ref mo_lanes, .ref mo_sizes, .ref mo_cells, .int 0, .ref mo_had])), (mo_st, .inl (k 0, 132, .inl (hst))), (mo_at, .inl (k 0, 44, .inl (hst)))] := hD
      refine lv_iconst (v := 0) hx hb dX8_fits_16 (by decide) ?_
      refine lv_istore_n (lv' := [(3, .int 0), (2, .int 0), (0, .ref mo), (1, .int 0)]) hx hb dX8_fits_17 rfl hl (by decide) rfl (fun ls hl => ?_)
      refine lv_iload_n hx hb dX8_fits_18 rfl (lv_at hl 0 rfl) ?_
      refine lv_bipush (v := 9) hx hb dX8_fits_19 (by decide) ?_
      refine lv_icmp_gt (tgt := 51) hx hb dX8_fits_21 (by decide) (fun c_8 => absurd c_8 (by decide)) (fun c_8 => ?_)
      refine lv_aload_n hx hb dX8_fits_24 rfl (lv_at hl 2 rfl) ?_
      refine va_get (D := D) (ci := 7) (v := .ref mo_at) (C := RX8) (T := TX8) (N := 32) hx hb hts hiX8 hown hK hP 0 rfl rfl 1 (by decide) fl13 (fun _ h9 => h9) rfl dX8_fits_25 ?_
      refine lv_iconst (v := 1) hx hb dX8_fits_28 (by decide) ?_
      refine lv_iload_n hx hb dX8_fits_29 rfl (lv_at hl 3 rfl) ?_
      refine lv_iadd hx hb dX8_fits_30 ?_
      refine hs_topi 1 (by first | rfl | decide +kernel) ?_
      refine lv_iload_n hx hb dX8_fits_31 rfl (lv_at hl 0 rfl) ?_
      refine va_iast hx hb hK hP hD hS 2 0 rfl rfl (hs_in (by decide)) dX8_fits_32 (fun H locs hP hD hS => ?_)
      have hP : va_P D vwCl [(mo, .inr (7, [.ref mo_st, .ref mo_at, .ref mo_isKept, .int 0, .int 2, .ref mo_draft, .int 0, .int 2, .int 0, .int (-4), .ref mo_tape, .int 0, .int 0, .int 0, .int 0, .int 0, .int 0, .int 0, .ref mo_row, .int 0, .int 0, .int 0, .int 0, .ref mo_before, .long 0, .long 0, .long 0, .ref mo_lanes, .ref mo_sizes, .ref mo_cells, .int 0, .ref mo_had])), (mo_st, .inl (k 0, 132, .inl (hst))), (mo_at, .inl (k 0, 44, .inl (upd hst 1 0)))] H := hP
      have hD : va_D A [(mo, .inr (7, [.ref mo_st, .ref mo_at, .ref mo_isKept, .int 0, .int 2, .ref mo_draft, .int 0, .int 2, .int 0, .int (-4), .ref mo_tape, .int 0, .int 0, .int 0, .int 0, .int 0, .int 0, .int 0, .ref mo_row, .int 0, .int 0, .int 0, .int 0, .ref mo_before, .long 0, .long 0, .long 0, .ref mo_lanes, .ref mo_sizes, .ref mo_cells, .int 0, .ref mo_had])), (mo_st, .inl (k 0, 132, .inl (hst))), (mo_at, .inl (k 0, 44, .inl (upd hst 1 0)))] := hD
      refine lv_iload_n hx hb dX8_fits_33 rfl (lv_at hl 1 rfl) ?_
      refine lv_aload_n hx hb dX8_fits_34 rfl (lv_at hl 2 rfl) ?_
      refine hs_ci (va_runV (As := []) (rest := [.int 0]) ⟨hx, hb, hml, hown, hts⟩ (m_isSo0 l D k _ mo mo_st mo_at mo_isKept 0 2 mo_draft 0 2 0 (-4) mo_tape 0 0 0 0 0 0 0 mo_row 0 0 0 0 mo_before 0 0 0 mo_lanes mo_sizes mo_cells 0 mo_had (upd hst 1 0) rfl) (cwV 0 hts gX8_fits_X8_isSo rfl rfl rfl (by decide +kernel) ⟨Nat.le_of_ble_eq_true rfl, Nat.le_of_ble_eq_true rfl⟩) (hs_preV hK hN (hs_subP (w := [(mo, .inr (7, [.ref mo_st, .ref mo_at, .ref mo_isKept, .int 0, .int 2, .ref mo_draft, .int 0, .int 2, .int 0, .int (-4), .ref mo_tape, .int 0, .int 0, .int 0, .int 0, .int 0, .int 0, .int 0, .ref mo_row, .int 0, .int 0, .int 0, .int 0, .ref mo_before, .long 0, .long 0, .long 0, .ref mo_lanes, .ref mo_sizes, .ref mo_cells, .int 0, .ref mo_had])), (mo_at, .inl (k 0, 44, .inl (upd hst 1 0)))]) hP [0, 2] rfl) (hD.sub (ws' := [(mo, .inr (7, [.ref mo_st, .ref mo_at, .ref mo_isKept, .int 0, .int 2, .ref mo_draft, .int 0, .int 2, .int 0, .int (-4), .ref mo_tape, .int 0, .int 0, .int 0, .int 0, .int 0, .int 0, .int 0, .ref mo_row, .int 0, .int 0, .int 0, .int 0, .ref mo_before, .long 0, .long 0, .long 0, .ref mo_lanes, .ref mo_sizes, .ref mo_cells, .int 0, .ref mo_had])), (mo_at, .inl (k 0, 44, .inl (upd hst 1 0)))]) [0, 2] (by decide) rfl) (ci := 7) (q0 := 0) rfl rfl) rfl rfl hl.1 rfl (lv_room (Nat.le_of_ble_eq_true rfl)) dX8_fits_35 ⟨Nat.le_of_ble_eq_true rfl, Nat.le_of_ble_eq_true rfl⟩) hP hD hS hA [0, 2] [1] [(mo_st, .inl (k 0, 132, .inl (hst)))] rfl rfl (by decide) (by decide) [1, 0, 2] (fun u_11 => [(mo, .inr (7, [.ref mo_st, .ref mo_at, .ref mo_isKept, .int 0, .int 2, .ref mo_draft, .int 0, .int 2, .int 0, .int (-4), .ref mo_tape, .int 0, .int 0, .int 0, .int 0, .int 0, .int 0, .int 0, .ref mo_row, .int 0, .int 0, .int 0, .int 0, .ref mo_before, .long 0, .long 0, .long 0, .ref mo_lanes, .ref mo_sizes, .ref mo_cells, .int 0, .ref mo_had])), (mo_st, .inl (k 0, 132, .inl (hst))), (mo_at, .inl (k 0, 44, .inl (upd hst 1 0)))]) (fun _ => rfl) (by decide) (fun r_9 u_11 H locs hw_10 hP hD hS => ?_)
      have hP : va_P D vwCl [(mo, .inr (7, [.ref mo_st, .ref mo_at, .ref mo_isKept, .int 0, .int 2, .ref mo_draft, .int 0, .int 2, .int 0, .int (-4), .ref mo_tape, .int 0, .int 0, .int 0, .int 0, .int 0, .int 0, .int 0, .ref mo_row, .int 0, .int 0, .int 0, .int 0, .ref mo_before, .long 0, .long 0, .long 0, .ref mo_lanes, .ref mo_sizes, .ref mo_cells, .int 0, .ref mo_had])), (mo_st, .inl (k 0, 132, .inl (hst))), (mo_at, .inl (k 0, 44, .inl (upd hst 1 0)))] H := hP
      have hD : va_D A [(mo, .inr (7, [.ref mo_st, .ref mo_at, .ref mo_isKept, .int 0, .int 2, .ref mo_draft, .int 0, .int 2, .int 0, .int (-4), .ref mo_tape, .int 0, .int 0, .int 0, .int 0, .int 0, .int 0, .int 0, .ref mo_row, .int 0, .int 0, .int 0, .int 0, .ref mo_before, .long 0, .long 0, .long 0, .ref mo_lanes, .ref mo_sizes, .ref mo_cells, .int 0, .ref mo_had])), (mo_st, .inl (k 0, 132, .inl (hst))), (mo_at, .inl (k 0, 44, .inl (upd hst 1 0)))] := hD
      refine hs_topi 1 (hw_10.trans (by first | rfl | decide +kernel | rfl)) ?_
      refine hs_pi (va_runS (As := [.int 1]) (rest := [.int 0]) ⟨hx, hb, hml, hown, hts⟩ (m_flag1 l D k _ ) (va_cwS 1 hts gX8_fits_X8_flag rfl rfl rfl (by decide +kernel) ⟨Nat.le_of_ble_eq_true rfl, Nat.le_of_ble_eq_true rfl⟩) (hs_preS hK hN (hs_subP (w := []) hP [] rfl) (hD.sub (ws' := []) [] (by decide) rfl)) rfl rfl hl.1 rfl (lv_room (Nat.le_of_ble_eq_true rfl)) dX8_fits_38 ⟨Nat.le_of_ble_eq_true rfl, Nat.le_of_ble_eq_true rfl⟩) hP hD hS hA (fun r_12 u_14 H locs hw_13 hP hS => ?_)
      refine hs_topi 1 (hw_13.trans (by first | rfl | decide +kernel | rfl)) ?_
      refine lv_iload_n hx hb dX8_fits_41 rfl (lv_at hl 0 rfl) ?_
      refine lv_ishl hx hb dX8_fits_42 ?_
      refine hs_topi 1 (by first | rfl | decide +kernel) ?_
      refine lv_ior hx hb dX8_fits_43 ?_
      refine hs_topi 1 (by first | rfl | decide +kernel) ?_
      refine lv_istore_n (lv' := [(2, .int 1), (3, .int 0), (0, .ref mo), (1, .int 0)]) hx hb dX8_fits_44 rfl hl (by decide) rfl (fun ls hl => ?_)
      refine lv_iinc (v := 1) (lv' := [(3, .int 1), (2, .int 1), (0, .ref mo), (1, .int 0)]) hx hb dX8_fits_45 hl (k := 1) rfl (by decide) (by decide) rfl (fun ls hl => ?_)
      refine lv_goto (tgt := 18) hx hb dX8_fits_48 (by decide) ?_
      refine lv_iload_n hx hb dX8_fits_18 rfl (lv_at hl 0 rfl) ?_
      refine lv_bipush (v := 9) hx hb dX8_fits_19 (by decide) ?_
      refine lv_icmp_gt (tgt := 51) hx hb dX8_fits_21 (by decide) (fun c_15 => absurd c_15 (by decide)) (fun c_15 => ?_)
      refine lv_aload_n hx hb dX8_fits_24 rfl (lv_at hl 2 rfl) ?_
      refine va_get (D := D) (ci := 7) (v := .ref mo_at) (C := RX8) (T := TX8) (N := 32) hx hb hts hiX8 hown hK hP 0 rfl rfl 1 (by decide) fl13 (fun _ h9 => h9) rfl dX8_fits_25 ?_
      refine lv_iconst (v := 1) hx hb dX8_fits_28 (by decide) ?_
      refine lv_iload_n hx hb dX8_fits_29 rfl (lv_at hl 3 rfl) ?_
      refine lv_iadd hx hb dX8_fits_30 ?_
      refine hs_topi 1 (by first | rfl | decide +kernel) ?_
      refine lv_iload_n hx hb dX8_fits_31 rfl (lv_at hl 0 rfl) ?_
      refine va_iast hx hb hK hP hD hS 2 0 rfl rfl (hs_in (by decide)) dX8_fits_32 (fun H locs hP hD hS => ?_)
      have hP : va_P D vwCl [(mo, .inr (7, [.ref mo_st, .ref mo_at, .ref mo_isKept, .int 0, .int 2, .ref mo_draft, .int 0, .int 2, .int 0, .int (-4), .ref mo_tape, .int 0, .int 0, .int 0, .int 0, .int 0, .int 0, .int 0, .ref mo_row, .int 0, .int 0, .int 0, .int 0, .ref mo_before, .long 0, .long 0, .long 0, .ref mo_lanes, .ref mo_sizes, .ref mo_cells, .int 0, .ref mo_had])), (mo_st, .inl (k 0, 132, .inl (hst))), (mo_at, .inl (k 0, 44, .inl (upd (upd hst 1 0) 1 1)))] H := hP
      have hD : va_D A [(mo, .inr (7, [.ref mo_st, .ref mo_at, .ref mo_isKept, .int 0, .int 2, .ref mo_draft, .int 0, .int 2, .int 0, .int (-4), .ref mo_tape, .int 0, .int 0, .int 0, .int 0, .int 0, .int 0, .int 0, .ref mo_row, .int 0, .int 0, .int 0, .int 0, .ref mo_before, .long 0, .long 0, .long 0, .ref mo_lanes, .ref mo_sizes, .ref mo_cells, .int 0, .ref mo_had])), (mo_st, .inl (k 0, 132, .inl (hst))), (mo_at, .inl (k 0, 44, .inl (upd (upd hst 1 0) 1 1)))] := hD
      refine lv_iload_n hx hb dX8_fits_33 rfl (lv_at hl 1 rfl) ?_
      refine lv_aload_n hx hb dX8_fits_34 rfl (lv_at hl 2 rfl) ?_
      refine hs_ci (va_runV (As := []) (rest := [.int 1]) ⟨hx, hb, hml, hown, hts⟩ (m_isSo0 l D k _ mo mo_st mo_at mo_isKept 0 2 mo_draft 0 2 0 (-4) mo_tape 0 0 0 0 0 0 0 mo_row 0 0 0 0 mo_before 0 0 0 mo_lanes mo_sizes mo_cells 0 mo_had (upd (upd hst 1 0) 1 1) rfl) (cwV 0 hts gX8_fits_X8_isSo rfl rfl rfl (by decide +kernel) ⟨Nat.le_of_ble_eq_true rfl, Nat.le_of_ble_eq_true rfl⟩) (hs_preV hK hN (hs_subP (w := [(mo, .inr (7, [.ref mo_st, .ref mo_at, .ref mo_isKept, .int 0, .int 2, .ref mo_draft, .int 0, .int 2, .int 0, .int (-4), .ref mo_tape, .int 0, .int 0, .int 0, .int 0, .int 0, .int 0, .int 0, .ref mo_row, .int 0, .int 0, .int 0, .int 0, .ref mo_before, .long 0, .long 0, .long 0, .ref mo_lanes, .ref mo_sizes, .ref mo_cells, .int 0, .ref mo_had])), (mo_at, .inl (k 0, 44, .inl (upd (upd hst 1 0) 1 1)))]) hP [0, 2] rfl) (hD.sub (ws' := [(mo, .inr (7, [.ref mo_st, .ref mo_at, .ref mo_isKept, .int 0, .int 2, .ref mo_draft, .int 0, .int 2, .int 0, .int (-4), .ref mo_tape, .int 0, .int 0, .int 0, .int 0, .int 0, .int 0, .int 0, .ref mo_row, .int 0, .int 0, .int 0, .int 0, .ref mo_before, .long 0, .long 0, .long 0, .ref mo_lanes, .ref mo_sizes, .ref mo_cells, .int 0, .ref mo_had])), (mo_at, .inl (k 0, 44, .inl (upd (upd hst 1 0) 1 1)))]) [0, 2] (by decide) rfl) (ci := 7) (q0 := 0) rfl rfl) rfl rfl hl.1 rfl (lv_room (Nat.le_of_ble_eq_true rfl)) dX8_fits_35 ⟨Nat.le_of_ble_eq_true rfl, Nat.le_of_ble_eq_true rfl⟩) hP hD hS hA [0, 2] [1] [(mo_st, .inl (k 0, 132, .inl (hst)))] rfl rfl (by decide) (by decide) [1, 0, 2] (fun u_18 => [(mo, .inr (7, [.ref mo_st, .ref mo_at, .ref mo_isKept, .int 0, .int 2, .ref mo_draft, .int 0, .int 2, .int 0, .int (-4), .ref mo_tape, .int 0, .int 0, .int 0, .int 0, .int 0, .int 0, .int 0, .ref mo_row, .int 0, .int 0, .int 0, .int 0, .ref mo_before, .long 0, .long 0, .long 0, .ref mo_lanes, .ref mo_sizes, .ref mo_cells, .int 0, .ref mo_had])), (mo_st, .inl (k 0, 132, .inl (hst))), (mo_at, .inl (k 0, 44, .inl (upd (upd hst 1 0) 1 1)))]) (fun _ => rfl) (by decide) (fun r_16 u_18 H locs hw_17 hP hD hS => ?_)
      have hP : va_P D vwCl [(mo, .inr (7, [.ref mo_st, .ref mo_at, .ref mo_isKept, .int 0, .int 2, .ref mo_draft, .int 0, .int 2, .int 0, .int (-4), .ref mo_tape, .int 0, .int 0, .int 0, .int 0, .int 0, .int 0, .int 0, .ref mo_row, .int 0, .int 0, .int 0, .int 0, .ref mo_before, .long 0, .long 0, .long 0, .ref mo_lanes, .ref mo_sizes, .ref mo_cells, .int 0, .ref mo_had])), (mo_st, .inl (k 0, 132, .inl (hst))), (mo_at, .inl (k 0, 44, .inl (upd (upd hst 1 0) 1 1)))] H := hP
      have hD : va_D A [(mo, .inr (7, [.ref mo_st, .ref mo_at, .ref mo_isKept, .int 0, .int 2, .ref mo_draft, .int 0, .int 2, .int 0, .int (-4), .ref mo_tape, .int 0, .int 0, .int 0, .int 0, .int 0, .int 0, .int 0, .ref mo_row, .int 0, .int 0, .int 0, .int 0, .ref mo_before, .long 0, .long 0, .long 0, .ref mo_lanes, .ref mo_sizes, .ref mo_cells, .int 0, .ref mo_had])), (mo_st, .inl (k 0, 132, .inl (hst))), (mo_at, .inl (k 0, 44, .inl (upd (upd hst 1 0) 1 1)))] := hD
      refine hs_topi 1 (hw_17.trans (by first | rfl | decide +kernel | rfl)) ?_
      refine hs_pi (va_runS (As := [.int 1]) (rest := [.int 1]) ⟨hx, hb, hml, hown, hts⟩ (m_flag1 l D k _ ) (va_cwS 1 hts gX8_fits_X8_flag rfl rfl rfl (by decide +kernel) ⟨Nat.le_of_ble_eq_true rfl, Nat.le_of_ble_eq_true rfl⟩) (hs_preS hK hN (hs_subP (w := []) hP [] rfl) (hD.sub (ws' := []) [] (by decide) rfl)) rfl rfl hl.1 rfl (lv_room (Nat.le_of_ble_eq_true rfl)) dX8_fits_38 ⟨Nat.le_of_ble_eq_true rfl, Nat.le_of_ble_eq_true rfl⟩) hP hD hS hA (fun r_19 u_21 H locs hw_20 hP hS => ?_)
      refine hs_topi 1 (hw_20.trans (by first | rfl | decide +kernel | rfl)) ?_
      refine lv_iload_n hx hb dX8_fits_41 rfl (lv_at hl 0 rfl) ?_
      refine lv_ishl hx hb dX8_fits_42 ?_
      refine hs_topi 2 (by first | rfl | decide +kernel) ?_
      refine lv_ior hx hb dX8_fits_43 ?_
      refine hs_topi 3 (by first | rfl | decide +kernel) ?_
      refine lv_istore_n (lv' := [(2, .int 3), (3, .int 1), (0, .ref mo), (1, .int 0)]) hx hb dX8_fits_44 rfl hl (by decide) rfl (fun ls hl => ?_)
      refine lv_iinc (v := 2) (lv' := [(3, .int 2), (2, .int 3), (0, .ref mo), (1, .int 0)]) hx hb dX8_fits_45 hl (k := 1) rfl (by decide) (by decide) rfl (fun ls hl => ?_)
      refine lv_goto (tgt := 18) hx hb dX8_fits_48 (by decide) ?_
      refine lv_iload_n hx hb dX8_fits_18 rfl (lv_at hl 0 rfl) ?_
      refine lv_bipush (v := 9) hx hb dX8_fits_19 (by decide) ?_
      refine lv_icmp_gt (tgt := 51) hx hb dX8_fits_21 (by decide) (fun c_22 => absurd c_22 (by decide)) (fun c_22 => ?_)
      refine lv_aload_n hx hb dX8_fits_24 rfl (lv_at hl 2 rfl) ?_
      refine va_get (D := D) (ci := 7) (v := .ref mo_at) (C := RX8) (T := TX8) (N := 32) hx hb hts hiX8 hown hK hP 0 rfl rfl 1 (by decide) fl13 (fun _ h9 => h9) rfl dX8_fits_25 ?_
      refine lv_iconst (v := 1) hx hb dX8_fits_28 (by decide) ?_
      refine lv_iload_n hx hb dX8_fits_29 rfl (lv_at hl 3 rfl) ?_
      refine lv_iadd hx hb dX8_fits_30 ?_
      refine hs_topi 1 (by first | rfl | decide +kernel) ?_
      refine lv_iload_n hx hb dX8_fits_31 rfl (lv_at hl 0 rfl) ?_
      refine va_iast hx hb hK hP hD hS 2 0 rfl rfl (hs_in (by decide)) dX8_fits_32 (fun H locs hP hD hS => ?_)
      have hP : va_P D vwCl [(mo, .inr (7, [.ref mo_st, .ref mo_at, .ref mo_isKept, .int 0, .int 2, .ref mo_draft, .int 0, .int 2, .int 0, .int (-4), .ref mo_tape, .int 0, .int 0, .int 0, .int 0, .int 0, .int 0, .int 0, .ref mo_row, .int 0, .int 0, .int 0, .int 0, .ref mo_before, .long 0, .long 0, .long 0, .ref mo_lanes, .ref mo_sizes, .ref mo_cells, .int 0, .ref mo_had])), (mo_st, .inl (k 0, 132, .inl (hst))), (mo_at, .inl (k 0, 44, .inl (upd (upd (upd hst 1 0) 1 1) 1 2)))] H := hP
      have hD : va_D A [(mo, .inr (7, [.ref mo_st, .ref mo_at, .ref mo_isKept, .int 0, .int 2, .ref mo_draft, .int 0, .int 2, .int 0, .int (-4), .ref mo_tape, .int 0, .int 0, .int 0, .int 0, .int 0, .int 0, .int 0, .ref mo_row, .int 0, .int 0, .int 0, .int 0, .ref mo_before, .long 0, .long 0, .long 0, .ref mo_lanes, .ref mo_sizes, .ref mo_cells, .int 0, .ref mo_had])), (mo_st, .inl (k 0, 132, .inl (hst))), (mo_at, .inl (k 0, 44, .inl (upd (upd (upd hst 1 0) 1 1) 1 2)))] := hD
      refine lv_iload_n hx hb dX8_fits_33 rfl (lv_at hl 1 rfl) ?_
      refine lv_aload_n hx hb dX8_fits_34 rfl (lv_at hl 2 rfl) ?_
      refine hs_ci (va_runV (As := []) (rest := [.int 3]) ⟨hx, hb, hml, hown, hts⟩ (m_isSo0 l D k _ mo mo_st mo_at mo_isKept 0 2 mo_draft 0 2 0 (-4) mo_tape 0 0 0 0 0 0 0 mo_row 0 0 0 0 mo_before 0 0 0 mo_lanes mo_sizes mo_cells 0 mo_had (upd (upd (upd hst 1 0) 1 1) 1 2) rfl) (cwV 0 hts gX8_fits_X8_isSo rfl rfl rfl (by decide +kernel) ⟨Nat.le_of_ble_eq_true rfl, Nat.le_of_ble_eq_true rfl⟩) (hs_preV hK hN (hs_subP (w := [(mo, .inr (7, [.ref mo_st, .ref mo_at, .ref mo_isKept, .int 0, .int 2, .ref mo_draft, .int 0, .int 2, .int 0, .int (-4), .ref mo_tape, .int 0, .int 0, .int 0, .int 0, .int 0, .int 0, .int 0, .ref mo_row, .int 0, .int 0, .int 0, .int 0, .ref mo_before, .long 0, .long 0, .long 0, .ref mo_lanes, .ref mo_sizes, .ref mo_cells, .int 0, .ref mo_had])), (mo_at, .inl (k 0, 44, .inl (upd (upd (upd hst 1 0) 1 1) 1 2)))]) hP [0, 2] rfl) (hD.sub (ws' := [(mo, .inr (7, [.ref mo_st, .ref mo_at, .ref mo_isKept, .int 0, .int 2, .ref mo_draft, .int 0, .int 2, .int 0, .int (-4), .ref mo_tape, .int 0, .int 0, .int 0, .int 0, .int 0, .int 0, .int 0, .ref mo_row, .int 0, .int 0, .int 0, .int 0, .ref mo_before, .long 0, .long 0, .long 0, .ref mo_lanes, .ref mo_sizes, .ref mo_cells, .int 0, .ref mo_had])), (mo_at, .inl (k 0, 44, .inl (upd (upd (upd hst 1 0) 1 1) 1 2)))]) [0, 2] (by decide) rfl) (ci := 7) (q0 := 0) rfl rfl) rfl rfl hl.1 rfl (lv_room (Nat.le_of_ble_eq_true rfl)) dX8_fits_35 ⟨Nat.le_of_ble_eq_true rfl, Nat.le_of_ble_eq_true rfl⟩) hP hD hS hA [0, 2] [1] [(mo_st, .inl (k 0, 132, .inl (hst)))] rfl rfl (by decide) (by decide) [1, 0, 2] (fun u_25 => [(mo, .inr (7, [.ref mo_st, .ref mo_at, .ref mo_isKept, .int 0, .int 2, .ref mo_draft, .int 0, .int 2, .int 0, .int (-4), .ref mo_tape, .int 0, .int 0, .int 0, .int 0, .int 0, .int 0, .int 0, .ref mo_row, .int 0, .int 0, .int 0, .int 0, .ref mo_before, .long 0, .long 0, .long 0, .ref mo_lanes, .ref mo_sizes, .ref mo_cells, .int 0, .ref mo_had])), (mo_st, .inl (k 0, 132, .inl (hst))), (mo_at, .inl (k 0, 44, .inl (upd (upd (upd hst 1 0) 1 1) 1 2)))]) (fun _ => rfl) (by decide) (fun r_23 u_25 H locs hw_24 hP hD hS => ?_)
      have hP : va_P D vwCl [(mo, .inr (7, [.ref mo_st, .ref mo_at, .ref mo_isKept, .int 0, .int 2, .ref mo_draft, .int 0, .int 2, .int 0, .int (-4), .ref mo_tape, .int 0, .int 0, .int 0, .int 0, .int 0, .int 0, .int 0, .ref mo_row, .int 0, .int 0, .int 0, .int 0, .ref mo_before, .long 0, .long 0, .long 0, .ref mo_lanes, .ref mo_sizes, .ref mo_cells, .int 0, .ref mo_had])), (mo_st, .inl (k 0, 132, .inl (hst))), (mo_at, .inl (k 0, 44, .inl (upd (upd (upd hst 1 0) 1 1) 1 2)))] H := hP
      have hD : va_D A [(mo, .inr (7, [.ref mo_st, .ref mo_at, .ref mo_isKept, .int 0, .int 2, .ref mo_draft, .int 0, .int 2, .int 0, .int (-4), .ref mo_tape, .int 0, .int 0, .int 0, .int 0, .int 0, .int 0, .int 0, .ref mo_row, .int 0, .int 0, .int 0, .int 0, .ref mo_before, .long 0, .long 0, .long 0, .ref mo_lanes, .ref mo_sizes, .ref mo_cells, .int 0, .ref mo_had])), (mo_st, .inl (k 0, 132, .inl (hst))), (mo_at, .inl (k 0, 44, .inl (upd (upd (upd hst 1 0) 1 1) 1 2)))] := hD
      refine hs_topi 1 (hw_24.trans (by first | rfl | decide +kernel | rfl)) ?_
      refine hs_pi (va_runS (As := [.int 1]) (rest := [.int 3]) ⟨hx, hb, hml, hown, hts⟩ (m_flag1 l D k _ ) (va_cwS 1 hts gX8_fits_X8_flag rfl rfl rfl (by decide +kernel) ⟨Nat.le_of_ble_eq_true rfl, Nat.le_of_ble_eq_true rfl⟩) (hs_preS hK hN (hs_subP (w := []) hP [] rfl) (hD.sub (ws' := []) [] (by decide) rfl)) rfl rfl hl.1 rfl (lv_room (Nat.le_of_ble_eq_true rfl)) dX8_fits_38 ⟨Nat.le_of_ble_eq_true rfl, Nat.le_of_ble_eq_true rfl⟩) hP hD hS hA (fun r_26 u_28 H locs hw_27 hP hS => ?_)
      refine hs_topi 1 (hw_27.trans (by first | rfl | decide +kernel | rfl)) ?_
      refine lv_iload_n hx hb dX8_fits_41 rfl (lv_at hl 0 rfl) ?_
      refine lv_ishl hx hb dX8_fits_42 ?_
      refine hs_topi 4 (by first | rfl | decide +kernel) ?_
      refine lv_ior hx hb dX8_fits_43 ?_
      refine hs_topi 7 (by first | rfl | decide +kernel) ?_
      refine lv_istore_n (lv' := [(2, .int 7), (3, .int 2), (0, .ref mo), (1, .int 0)]) hx hb dX8_fits_44 rfl hl (by decide) rfl (fun ls hl => ?_)
      refine lv_iinc (v := 3) (lv' := [(3, .int 3), (2, .int 7), (0, .ref mo), (1, .int 0)]) hx hb dX8_fits_45 hl (k := 1) rfl (by decide) (by decide) rfl (fun ls hl => ?_)
      refine lv_goto (tgt := 18) hx hb dX8_fits_48 (by decide) ?_
      refine lv_iload_n hx hb dX8_fits_18 rfl (lv_at hl 0 rfl) ?_
      refine lv_bipush (v := 9) hx hb dX8_fits_19 (by decide) ?_
      refine lv_icmp_gt (tgt := 51) hx hb dX8_fits_21 (by decide) (fun c_29 => absurd c_29 (by decide)) (fun c_29 => ?_)
      refine lv_aload_n hx hb dX8_fits_24 rfl (lv_at hl 2 rfl) ?_
      refine va_get (D := D) (ci := 7) (v := .ref mo_at) (C := RX8) (T := TX8) (N := 32) hx hb hts hiX8 hown hK hP 0 rfl rfl 1 (by decide) fl13 (fun _ h9 => h9) rfl dX8_fits_25 ?_
      refine lv_iconst (v := 1) hx hb dX8_fits_28 (by decide) ?_
      refine lv_iload_n hx hb dX8_fits_29 rfl (lv_at hl 3 rfl) ?_
      refine lv_iadd hx hb dX8_fits_30 ?_
      refine hs_topi 1 (by first | rfl | decide +kernel) ?_
      refine lv_iload_n hx hb dX8_fits_31 rfl (lv_at hl 0 rfl) ?_
      refine va_iast hx hb hK hP hD hS 2 0 rfl rfl (hs_in (by decide)) dX8_fits_32 (fun H locs hP hD hS => ?_)
      have hP : va_P D vwCl [(mo, .inr (7, [.ref mo_st, .ref mo_at, .ref mo_isKept, .int 0, .int 2, .ref mo_draft, .int 0, .int 2, .int 0, .int (-4), .ref mo_tape, .int 0, .int 0, .int 0, .int 0, .int 0, .int 0, .int 0, .ref mo_row, .int 0, .int 0, .int 0, .int 0, .ref mo_before, .long 0, .long 0, .long 0, .ref mo_lanes, .ref mo_sizes, .ref mo_cells, .int 0, .ref mo_had])), (mo_st, .inl (k 0, 132, .inl (hst))), (mo_at, .inl (k 0, 44, .inl (upd (upd (upd (upd hst 1 0) 1 1) 1 2) 1 3)))] H := hP
      have hD : va_D A [(mo, .inr (7, [.ref mo_st, .ref mo_at, .ref mo_isKept, .int 0, .int 2, .ref mo_draft, .int 0, .int 2, .int 0, .int (-4), .ref mo_tape, .int 0, .int 0, .int 0, .int 0, .int 0, .int 0, .int 0, .ref mo_row, .int 0, .int 0, .int 0, .int 0, .ref mo_before, .long 0, .long 0, .long 0, .ref mo_lanes, .ref mo_sizes, .ref mo_cells, .int 0, .ref mo_had])), (mo_st, .inl (k 0, 132, .inl (hst))), (mo_at, .inl (k 0, 44, .inl (upd (upd (upd (upd hst 1 0) 1 1) 1 2) 1 3)))] := hD
      refine lv_iload_n hx hb dX8_fits_33 rfl (lv_at hl 1 rfl) ?_
      refine lv_aload_n hx hb dX8_fits_34 rfl (lv_at hl 2 rfl) ?_
      refine hs_ci (va_runV (As := []) (rest := [.int 7]) ⟨hx, hb, hml, hown, hts⟩ (m_isSo0 l D k _ mo mo_st mo_at mo_isKept 0 2 mo_draft 0 2 0 (-4) mo_tape 0 0 0 0 0 0 0 mo_row 0 0 0 0 mo_before 0 0 0 mo_lanes mo_sizes mo_cells 0 mo_had (upd (upd (upd (upd hst 1 0) 1 1) 1 2) 1 3) rfl) (cwV 0 hts gX8_fits_X8_isSo rfl rfl rfl (by decide +kernel) ⟨Nat.le_of_ble_eq_true rfl, Nat.le_of_ble_eq_true rfl⟩) (hs_preV hK hN (hs_subP (w := [(mo, .inr (7, [.ref mo_st, .ref mo_at, .ref mo_isKept, .int 0, .int 2, .ref mo_draft, .int 0, .int 2, .int 0, .int (-4), .ref mo_tape, .int 0, .int 0, .int 0, .int 0, .int 0, .int 0, .int 0, .ref mo_row, .int 0, .int 0, .int 0, .int 0, .ref mo_before, .long 0, .long 0, .long 0, .ref mo_lanes, .ref mo_sizes, .ref mo_cells, .int 0, .ref mo_had])), (mo_at, .inl (k 0, 44, .inl (upd (upd (upd (upd hst 1 0) 1 1) 1 2) 1 3)))]) hP [0, 2] rfl) (hD.sub (ws' := [(mo, .inr (7, [.ref mo_st, .ref mo_at, .ref mo_isKept, .int 0, .int 2, .ref mo_draft, .int 0, .int 2, .int 0, .int (-4), .ref mo_tape, .int 0, .int 0, .int 0, .int 0, .int 0, .int 0, .int 0, .ref mo_row, .int 0, .int 0, .int 0, .int 0, .ref mo_before, .long 0, .long 0, .long 0, .ref mo_lanes, .ref mo_sizes, .ref mo_cells, .int 0, .ref mo_had])), (mo_at, .inl (k 0, 44, .inl (upd (upd (upd (upd hst 1 0) 1 1) 1 2) 1 3)))]) [0, 2] (by decide) rfl) (ci := 7) (q0 := 0) rfl rfl) rfl rfl hl.1 rfl (lv_room (Nat.le_of_ble_eq_true rfl)) dX8_fits_35 ⟨Nat.le_of_ble_eq_true rfl, Nat.le_of_ble_eq_true rfl⟩) hP hD hS hA [0, 2] [1] [(mo_st, .inl (k 0, 132, .inl (hst)))] rfl rfl (by decide) (by decide) [1, 0, 2] (fun u_32 => [(mo, .inr (7, [.ref mo_st, .ref mo_at, .ref mo_isKept, .int 0, .int 2, .ref mo_draft, .int 0, .int 2, .int 0, .int (-4), .ref mo_tape, .int 0, .int 0, .int 0, .int 0, .int 0, .int 0, .int 0, .ref mo_row, .int 0, .int 0, .int 0, .int 0, .ref mo_before, .long 0, .long 0, .long 0, .ref mo_lanes, .ref mo_sizes, .ref mo_cells, .int 0, .ref mo_had])), (mo_st, .inl (k 0, 132, .inl (hst))), (mo_at, .inl (k 0, 44, .inl (upd (upd (upd (upd hst 1 0) 1 1) 1 2) 1 3)))]) (fun _ => rfl) (by decide) (fun r_30 u_32 H locs hw_31 hP hD hS => ?_)
      have hP : va_P D vwCl [(mo, .inr (7, [.ref mo_st, .ref mo_at, .ref mo_isKept, .int 0, .int 2, .ref mo_draft, .int 0, .int 2, .int 0, .int (-4), .ref mo_tape, .int 0, .int 0, .int 0, .int 0, .int 0, .int 0, .int 0, .ref mo_row, .int 0, .int 0, .int 0, .int 0, .ref mo_before, .long 0, .long 0, .long 0, .ref mo_lanes, .ref mo_sizes, .ref mo_cells, .int 0, .ref mo_had])), (mo_st, .inl (k 0, 132, .inl (hst))), (mo_at, .inl (k 0, 44, .inl (upd (upd (upd (upd hst 1 0) 1 1) 1 2) 1 3)))] H := hP
      have hD : va_D A [(mo, .inr (7, [.ref mo_st, .ref mo_at, .ref mo_isKept, .int 0, .int 2, .ref mo_draft, .int 0, .int 2, .int 0, .int (-4), .ref mo_tape, .int 0, .int 0, .int 0, .int 0, .int 0, .int 0, .int 0, .ref mo_row, .int 0, .int 0, .int 0, .int 0, .ref mo_before, .long 0, .long 0, .long 0, .ref mo_lanes, .ref mo_sizes, .ref mo_cells, .int 0, .ref mo_had])), (mo_st, .inl (k 0, 132, .inl (hst))), (mo_at, .inl (k 0, 44, .inl (upd (upd (upd (upd hst 1 0) 1 1) 1 2) 1 3)))] := hD
      refine hs_topi 1 (hw_31.trans (by first | rfl | decide +kernel | rfl)) ?_
      refine hs_pi (va_runS (As := [.int 1]) (rest := [.int 7]) ⟨hx, hb, hml, hown, hts⟩ (m_flag1 l D k _ ) (va_cwS 1 hts gX8_fits_X8_flag rfl rfl rfl (by decide +kernel) ⟨Nat.le_of_ble_eq_true rfl, Nat.le_of_ble_eq_true rfl⟩) (hs_preS hK hN (hs_subP (w := []) hP [] rfl) (hD.sub (ws' := []) [] (by decide) rfl)) rfl rfl hl.1 rfl (lv_room (Nat.le_of_ble_eq_true rfl)) dX8_fits_38 ⟨Nat.le_of_ble_eq_true rfl, Nat.le_of_ble_eq_true rfl⟩) hP hD hS hA (fun r_33 u_35 H locs hw_34 hP hS => ?_)
      refine hs_topi 1 (hw_34.trans (by first | rfl | decide +kernel | rfl)) ?_
      refine lv_iload_n hx hb dX8_fits_41 rfl (lv_at hl 0 rfl) ?_
      refine lv_ishl hx hb dX8_fits_42 ?_
      refine hs_topi 8 (by first | rfl | decide +kernel) ?_
      refine lv_ior hx hb dX8_fits_43 ?_
      refine hs_topi 15 (by first | rfl | decide +kernel) ?_
      refine lv_istore_n (lv' := [(2, .int 15), (3, .int 3), (0, .ref mo), (1, .int 0)]) hx hb dX8_fits_44 rfl hl (by decide) rfl (fun ls hl => ?_)
      refine lv_iinc (v := 4) (lv' := [(3, .int 4), (2, .int 15), (0, .ref mo), (1, .int 0)]) hx hb dX8_fits_45 hl (k := 1) rfl (by decide) (by decide) rfl (fun ls hl => ?_)
      refine lv_goto (tgt := 18) hx hb dX8_fits_48 (by decide) ?_
      refine lv_iload_n hx hb dX8_fits_18 rfl (lv_at hl 0 rfl) ?_
      refine lv_bipush (v := 9) hx hb dX8_fits_19 (by decide) ?_
      refine lv_icmp_gt (tgt := 51) hx hb dX8_fits_21 (by decide) (fun c_36 => absurd c_36 (by decide)) (fun c_36 => ?_)
      refine lv_aload_n hx hb dX8_fits_24 rfl (lv_at hl 2 rfl) ?_
      refine va_get (D := D) (ci := 7) (v := .ref mo_at) (C := RX8) (T := TX8) (N := 32) hx hb hts hiX8 hown hK hP 0 rfl rfl 1 (by decide) fl13 (fun _ h9 => h9) rfl dX8_fits_25 ?_
      refine lv_iconst (v := 1) hx hb dX8_fits_28 (by decide) ?_
      refine lv_iload_n hx hb dX8_fits_29 rfl (lv_at hl 3 rfl) ?_
      refine lv_iadd hx hb dX8_fits_30 ?_
      refine hs_topi 1 (by first | rfl | decide +kernel) ?_
      refine lv_iload_n hx hb dX8_fits_31 rfl (lv_at hl 0 rfl) ?_
      refine va_iast hx hb hK hP hD hS 2 0 rfl rfl (hs_in (by decide)) dX8_fits_32 (fun H locs hP hD hS => ?_)
      have hP : va_P D vwCl [(mo, .inr (7, [.ref mo_st, .ref mo_at, .ref mo_isKept, .int 0, .int 2, .ref mo_draft, .int 0, .int 2, .int 0, .int (-4), .ref mo_tape, .int 0, .int 0, .int 0, .int 0, .int 0, .int 0, .int 0, .ref mo_row, .int 0, .int 0, .int 0, .int 0, .ref mo_before, .long 0, .long 0, .long 0, .ref mo_lanes, .ref mo_sizes, .ref mo_cells, .int 0, .ref mo_had])), (mo_st, .inl (k 0, 132, .inl (hst))), (mo_at, .inl (k 0, 44, .inl (upd (upd (upd (upd (upd hst 1 0) 1 1) 1 2) 1 3) 1 4)))] H := hP
      have hD : va_D A [(mo, .inr (7, [.ref mo_st, .ref mo_at, .ref mo_isKept, .int 0, .int 2, .ref mo_draft, .int 0, .int 2, .int 0, .int (-4), .ref mo_tape, .int 0, .int 0, .int 0, .int 0, .int 0, .int 0, .int 0, .ref mo_row, .int 0, .int 0, .int 0, .int 0, .ref mo_before, .long 0, .long 0, .long 0, .ref mo_lanes, .ref mo_sizes, .ref mo_cells, .int 0, .ref mo_had])), (mo_st, .inl (k 0, 132, .inl (hst))), (mo_at, .inl (k 0, 44, .inl (upd (upd (upd (upd (upd hst 1 0) 1 1) 1 2) 1 3) 1 4)))] := hD
      refine lv_iload_n hx hb dX8_fits_33 rfl (lv_at hl 1 rfl) ?_
      refine lv_aload_n hx hb dX8_fits_34 rfl (lv_at hl 2 rfl) ?_
      refine hs_ci (va_runV (As := []) (rest := [.int 15]) ⟨hx, hb, hml, hown, hts⟩ (m_isSo0 l D k _ mo mo_st mo_at mo_isKept 0 2 mo_draft 0 2 0 (-4) mo_tape 0 0 0 0 0 0 0 mo_row 0 0 0 0 mo_before 0 0 0 mo_lanes mo_sizes mo_cells 0 mo_had (upd (upd (upd (upd (upd hst 1 0) 1 1) 1 2) 1 3) 1 4) rfl) (cwV 0 hts gX8_fits_X8_isSo rfl rfl rfl (by decide +kernel) ⟨Nat.le_of_ble_eq_true rfl, Nat.le_of_ble_eq_true rfl⟩) (hs_preV hK hN (hs_subP (w := [(mo, .inr (7, [.ref mo_st, .ref mo_at, .ref mo_isKept, .int 0, .int 2, .ref mo_draft, .int 0, .int 2, .int 0, .int (-4), .ref mo_tape, .int 0, .int 0, .int 0, .int 0, .int 0, .int 0, .int 0, .ref mo_row, .int 0, .int 0, .int 0, .int 0, .ref mo_before, .long 0, .long 0, .long 0, .ref mo_lanes, .ref mo_sizes, .ref mo_cells, .int 0, .ref mo_had])), (mo_at, .inl (k 0, 44, .inl (upd (upd (upd (upd (upd hst 1 0) 1 1) 1 2) 1 3) 1 4)))]) hP [0, 2] rfl) (hD.sub (ws' := [(mo, .inr (7, [.ref mo_st, .ref mo_at, .ref mo_isKept, .int 0, .int 2, .ref mo_draft, .int 0, .int 2, .int 0, .int (-4), .ref mo_tape, .int 0, .int 0, .int 0, .int 0, .int 0, .int 0, .int 0, .ref mo_row, .int 0, .int 0, .int 0, .int 0, .ref mo_before, .long 0, .long 0, .long 0, .ref mo_lanes, .ref mo_sizes, .ref mo_cells, .int 0, .ref mo_had])), (mo_at, .inl (k 0, 44, .inl (upd (upd (upd (upd (upd hst 1 0) 1 1) 1 2) 1 3) 1 4)))]) [0, 2] (by decide) rfl) (ci := 7) (q0 := 0) rfl rfl) rfl rfl hl.1 rfl (lv_room (Nat.le_of_ble_eq_true rfl)) dX8_fits_35 ⟨Nat.le_of_ble_eq_true rfl, Nat.le_of_ble_eq_true rfl⟩) hP hD hS hA [0, 2] [1] [(mo_st, .inl (k 0, 132, .inl (hst)))] rfl rfl (by decide) (by decide) [1, 0, 2] (fun u_39 => [(mo, .inr (7, [.ref mo_st, .ref mo_at, .ref mo_isKept, .int 0, .int 2, .ref mo_draft, .int 0, .int 2, .int 0, .int (-4), .ref mo_tape, .int 0, .int 0, .int 0, .int 0, .int 0, .int 0, .int 0, .ref mo_row, .int 0, .int 0, .int 0, .int 0, .ref mo_before, .long 0, .long 0, .long 0, .ref mo_lanes, .ref mo_sizes, .ref mo_cells, .int 0, .ref mo_had])), (mo_st, .inl (k 0, 132, .inl (hst))), (mo_at, .inl (k 0, 44, .inl (upd (upd (upd (upd (upd hst 1 0) 1 1) 1 2) 1 3) 1 4)))]) (fun _ => rfl) (by decide) (fun r_37 u_39 H locs hw_38 hP hD hS => ?_)
      have hP : va_P D vwCl [(mo, .inr (7, [.ref mo_st, .ref mo_at, .ref mo_isKept, .int 0, .int 2, .ref mo_draft, .int 0, .int 2, .int 0, .int (-4), .ref mo_tape, .int 0, .int 0, .int 0, .int 0, .int 0, .int 0, .int 0, .ref mo_row, .int 0, .int 0, .int 0, .int 0, .ref mo_before, .long 0, .long 0, .long 0, .ref mo_lanes, .ref mo_sizes, .ref mo_cells, .int 0, .ref mo_had])), (mo_st, .inl (k 0, 132, .inl (hst))), (mo_at, .inl (k 0, 44, .inl (upd (upd (upd (upd (upd hst 1 0) 1 1) 1 2) 1 3) 1 4)))] H := hP
      have hD : va_D A [(mo, .inr (7, [.ref mo_st, .ref mo_at, .ref mo_isKept, .int 0, .int 2, .ref mo_draft, .int 0, .int 2, .int 0, .int (-4), .ref mo_tape, .int 0, .int 0, .int 0, .int 0, .int 0, .int 0, .int 0, .ref mo_row, .int 0, .int 0, .int 0, .int 0, .ref mo_before, .long 0, .long 0, .long 0, .ref mo_lanes, .ref mo_sizes, .ref mo_cells, .int 0, .ref mo_had])), (mo_st, .inl (k 0, 132, .inl (hst))), (mo_at, .inl (k 0, 44, .inl (upd (upd (upd (upd (upd hst 1 0) 1 1) 1 2) 1 3) 1 4)))] := hD
      refine hs_topi 1 (hw_38.trans (by first | rfl | decide +kernel | rfl)) ?_
      refine hs_pi (va_runS (As := [.int 1]) (rest := [.int 15]) ⟨hx, hb, hml, hown, hts⟩ (m_flag1 l D k _ ) (va_cwS 1 hts gX8_fits_X8_flag rfl rfl rfl (by decide +kernel) ⟨Nat.le_of_ble_eq_true rfl, Nat.le_of_ble_eq_true rfl⟩) (hs_preS hK hN (hs_subP (w := []) hP [] rfl) (hD.sub (ws' := []) [] (by decide) rfl)) rfl rfl hl.1 rfl (lv_room (Nat.le_of_ble_eq_true rfl)) dX8_fits_38 ⟨Nat.le_of_ble_eq_true rfl, Nat.le_of_ble_eq_true rfl⟩) hP hD hS hA (fun r_40 u_42 H locs hw_41 hP hS => ?_)
      refine hs_topi 1 (hw_41.trans (by first | rfl | decide +kernel | rfl)) ?_
      refine lv_iload_n hx hb dX8_fits_41 rfl (lv_at hl 0 rfl) ?_
      refine lv_ishl hx hb dX8_fits_42 ?_
      refine hs_topi 16 (by first | rfl | decide +kernel) ?_
      refine lv_ior hx hb dX8_fits_43 ?_
      refine hs_topi 31 (by first | rfl | decide +kernel) ?_
      refine lv_istore_n (lv' := [(2, .int 31), (3, .int 4), (0, .ref mo), (1, .int 0)]) hx hb dX8_fits_44 rfl hl (by decide) rfl (fun ls hl => ?_)
      refine lv_iinc (v := 5) (lv' := [(3, .int 5), (2, .int 31), (0, .ref mo), (1, .int 0)]) hx hb dX8_fits_45 hl (k := 1) rfl (by decide) (by decide) rfl (fun ls hl => ?_)
      refine lv_goto (tgt := 18) hx hb dX8_fits_48 (by decide) ?_
      refine lv_iload_n hx hb dX8_fits_18 rfl (lv_at hl 0 rfl) ?_
      refine lv_bipush (v := 9) hx hb dX8_fits_19 (by decide) ?_
      refine lv_icmp_gt (tgt := 51) hx hb dX8_fits_21 (by decide) (fun c_43 => absurd c_43 (by decide)) (fun c_43 => ?_)
      refine lv_aload_n hx hb dX8_fits_24 rfl (lv_at hl 2 rfl) ?_
      refine va_get (D := D) (ci := 7) (v := .ref mo_at) (C := RX8) (T := TX8) (N := 32) hx hb hts hiX8 hown hK hP 0 rfl rfl 1 (by decide) fl13 (fun _ h9 => h9) rfl dX8_fits_25 ?_
      refine lv_iconst (v := 1) hx hb dX8_fits_28 (by decide) ?_
      refine lv_iload_n hx hb dX8_fits_29 rfl (lv_at hl 3 rfl) ?_
      refine lv_iadd hx hb dX8_fits_30 ?_
      refine hs_topi 1 (by first | rfl | decide +kernel) ?_
      refine lv_iload_n hx hb dX8_fits_31 rfl (lv_at hl 0 rfl) ?_
      refine va_iast hx hb hK hP hD hS 2 0 rfl rfl (hs_in (by decide)) dX8_fits_32 (fun H locs hP hD hS => ?_)
      have hP : va_P D vwCl [(mo, .inr (7, [.ref mo_st, .ref mo_at, .ref mo_isKept, .int 0, .int 2, .ref mo_draft, .int 0, .int 2, .int 0, .int (-4), .ref mo_tape, .int 0, .int 0, .int 0, .int 0, .int 0, .int 0, .int 0, .ref mo_row, .int 0, .int 0, .int 0, .int 0, .ref mo_before, .long 0, .long 0, .long 0, .ref mo_lanes, .ref mo_sizes, .ref mo_cells, .int 0, .ref mo_had])), (mo_st, .inl (k 0, 132, .inl (hst))), (mo_at, .inl (k 0, 44, .inl (upd (upd (upd (upd (upd (upd hst 1 0) 1 1) 1 2) 1 3) 1 4) 1 5)))] H := hP
      have hD : va_D A [(mo, .inr (7, [.ref mo_st, .ref mo_at, .ref mo_isKept, .int 0, .int 2, .ref mo_draft, .int 0, .int 2, .int 0, .int (-4), .ref mo_tape, .int 0, .int 0, .int 0, .int 0, .int 0, .int 0, .int 0, .ref mo_row, .int 0, .int 0, .int 0, .int 0, .ref mo_before, .long 0, .long 0, .long 0, .ref mo_lanes, .ref mo_sizes, .ref mo_cells, .int 0, .ref mo_had])), (mo_st, .inl (k 0, 132, .inl (hst))), (mo_at, .inl (k 0, 44, .inl (upd (upd (upd (upd (upd (upd hst 1 0) 1 1) 1 2) 1 3) 1 4) 1 5)))] := hD
      refine lv_iload_n hx hb dX8_fits_33 rfl (lv_at hl 1 rfl) ?_
      refine lv_aload_n hx hb dX8_fits_34 rfl (lv_at hl 2 rfl) ?_
      refine hs_ci (va_runV (As := []) (rest := [.int 31]) ⟨hx, hb, hml, hown, hts⟩ (m_isSo0 l D k _ mo mo_st mo_at mo_isKept 0 2 mo_draft 0 2 0 (-4) mo_tape 0 0 0 0 0 0 0 mo_row 0 0 0 0 mo_before 0 0 0 mo_lanes mo_sizes mo_cells 0 mo_had (upd (upd (upd (upd (upd (upd hst 1 0) 1 1) 1 2) 1 3) 1 4) 1 5) rfl) (cwV 0 hts gX8_fits_X8_isSo rfl rfl rfl (by decide +kernel) ⟨Nat.le_of_ble_eq_true rfl, Nat.le_of_ble_eq_true rfl⟩) (hs_preV hK hN (hs_subP (w := [(mo, .inr (7, [.ref mo_st, .ref mo_at, .ref mo_isKept, .int 0, .int 2, .ref mo_draft, .int 0, .int 2, .int 0, .int (-4), .ref mo_tape, .int 0, .int 0, .int 0, .int 0, .int 0, .int 0, .int 0, .ref mo_row, .int 0, .int 0, .int 0, .int 0, .ref mo_before, .long 0, .long 0, .long 0, .ref mo_lanes, .ref mo_sizes, .ref mo_cells, .int 0, .ref mo_had])), (mo_at, .inl (k 0, 44, .inl (upd (upd (upd (upd (upd (upd hst 1 0) 1 1) 1 2) 1 3) 1 4) 1 5)))]) hP [0, 2] rfl) (hD.sub (ws' := [(mo, .inr (7, [.ref mo_st, .ref mo_at, .ref mo_isKept, .int 0, .int 2, .ref mo_draft, .int 0, .int 2, .int 0, .int (-4), .ref mo_tape, .int 0, .int 0, .int 0, .int 0, .int 0, .int 0, .int 0, .ref mo_row, .int 0, .int 0, .int 0, .int 0, .ref mo_before, .long 0, .long 0, .long 0, .ref mo_lanes, .ref mo_sizes, .ref mo_cells, .int 0, .ref mo_had])), (mo_at, .inl (k 0, 44, .inl (upd (upd (upd (upd (upd (upd hst 1 0) 1 1) 1 2) 1 3) 1 4) 1 5)))]) [0, 2] (by decide) rfl) (ci := 7) (q0 := 0) rfl rfl) rfl rfl hl.1 rfl (lv_room (Nat.le_of_ble_eq_true rfl)) dX8_fits_35 ⟨Nat.le_of_ble_eq_true rfl, Nat.le_of_ble_eq_true rfl⟩) hP hD hS hA [0, 2] [1] [(mo_st, .inl (k 0, 132, .inl (hst)))] rfl rfl (by decide) (by decide) [1, 0, 2] (fun u_46 => [(mo, .inr (7, [.ref mo_st, .ref mo_at, .ref mo_isKept, .int 0, .int 2, .ref mo_draft, .int 0, .int 2, .int 0, .int (-4), .ref mo_tape, .int 0, .int 0, .int 0, .int 0, .int 0, .int 0, .int 0, .ref mo_row, .int 0, .int 0, .int 0, .int 0, .ref mo_before, .long 0, .long 0, .long 0, .ref mo_lanes, .ref mo_sizes, .ref mo_cells, .int 0, .ref mo_had])), (mo_st, .inl (k 0, 132, .inl (hst))), (mo_at, .inl (k 0, 44, .inl (upd (upd (upd (upd (upd (upd hst 1 0) 1 1) 1 2) 1 3) 1 4) 1 5)))]) (fun _ => rfl) (by decide) (fun r_44 u_46 H locs hw_45 hP hD hS => ?_)
      have hP : va_P D vwCl [(mo, .inr (7, [.ref mo_st, .ref mo_at, .ref mo_isKept, .int 0, .int 2, .ref mo_draft, .int 0, .int 2, .int 0, .int (-4), .ref mo_tape, .int 0, .int 0, .int 0, .int 0, .int 0, .int 0, .int 0, .ref mo_row, .int 0, .int 0, .int 0, .int 0, .ref mo_before, .long 0, .long 0, .long 0, .ref mo_lanes, .ref mo_sizes, .ref mo_cells, .int 0, .ref mo_had])), (mo_st, .inl (k 0, 132, .inl (hst))), (mo_at, .inl (k 0, 44, .inl (upd (upd (upd (upd (upd (upd hst 1 0) 1 1) 1 2) 1 3) 1 4) 1 5)))] H := hP
      have hD : va_D A [(mo, .inr (7, [.ref mo_st, .ref mo_at, .ref mo_isKept, .int 0, .int 2, .ref mo_draft, .int 0, .int 2, .int 0, .int (-4), .ref mo_tape, .int 0, .int 0, .int 0, .int 0, .int 0, .int 0, .int 0, .ref mo_row, .int 0, .int 0, .int 0, .int 0, .ref mo_before, .long 0, .long 0, .long 0, .ref mo_lanes, .ref mo_sizes, .ref mo_cells, .int 0, .ref mo_had])), (mo_st, .inl (k 0, 132, .inl (hst))), (mo_at, .inl (k 0, 44, .inl (upd (upd (upd (upd (upd (upd hst 1 0) 1 1) 1 2) 1 3) 1 4) 1 5)))] := hD
      refine hs_topi 1 (hw_45.trans (by first | rfl | decide +kernel | rfl)) ?_
      refine hs_pi (va_runS (As := [.int 1]) (rest := [.int 31]) ⟨hx, hb, hml, hown, hts⟩ (m_flag1 l D k _ ) (va_cwS 1 hts gX8_fits_X8_flag rfl rfl rfl (by decide +kernel) ⟨Nat.le_of_ble_eq_true rfl, Nat.le_of_ble_eq_true rfl⟩) (hs_preS hK hN (hs_subP (w := []) hP [] rfl) (hD.sub (ws' := []) [] (by decide) rfl)) rfl rfl hl.1 rfl (lv_room (Nat.le_of_ble_eq_true rfl)) dX8_fits_38 ⟨Nat.le_of_ble_eq_true rfl, Nat.le_of_ble_eq_true rfl⟩) hP hD hS hA (fun r_47 u_49 H locs hw_48 hP hS => ?_)
      refine hs_topi 1 (hw_48.trans (by first | rfl | decide +kernel | rfl)) ?_
      refine lv_iload_n hx hb dX8_fits_41 rfl (lv_at hl 0 rfl) ?_
      refine lv_ishl hx hb dX8_fits_42 ?_
      refine hs_topi 32 (by first | rfl | decide +kernel) ?_
      refine lv_ior hx hb dX8_fits_43 ?_
      refine hs_topi 63 (by first | rfl | decide +kernel) ?_
      refine lv_istore_n (lv' := [(2, .int 63), (3, .int 5), (0, .ref mo), (1, .int 0)]) hx hb dX8_fits_44 rfl hl (by decide) rfl (fun ls hl => ?_)
      refine lv_iinc (v := 6) (lv' := [(3, .int 6), (2, .int 63), (0, .ref mo), (1, .int 0)]) hx hb dX8_fits_45 hl (k := 1) rfl (by decide) (by decide) rfl (fun ls hl => ?_)
      refine lv_goto (tgt := 18) hx hb dX8_fits_48 (by decide) ?_
      refine lv_iload_n hx hb dX8_fits_18 rfl (lv_at hl 0 rfl) ?_
      refine lv_bipush (v := 9) hx hb dX8_fits_19 (by decide) ?_
      refine lv_icmp_gt (tgt := 51) hx hb dX8_fits_21 (by decide) (fun c_50 => absurd c_50 (by decide)) (fun c_50 => ?_)
      refine lv_aload_n hx hb dX8_fits_24 rfl (lv_at hl 2 rfl) ?_
      refine va_get (D := D) (ci := 7) (v := .ref mo_at) (C := RX8) (T := TX8) (N := 32) hx hb hts hiX8 hown hK hP 0 rfl rfl 1 (by decide) fl13 (fun _ h9 => h9) rfl dX8_fits_25 ?_
      refine lv_iconst (v := 1) hx hb dX8_fits_28 (by decide) ?_
      refine lv_iload_n hx hb dX8_fits_29 rfl (lv_at hl 3 rfl) ?_
      refine lv_iadd hx hb dX8_fits_30 ?_
      refine hs_topi 1 (by first | rfl | decide +kernel) ?_
      refine lv_iload_n hx hb dX8_fits_31 rfl (lv_at hl 0 rfl) ?_
      refine va_iast hx hb hK hP hD hS 2 0 rfl rfl (hs_in (by decide)) dX8_fits_32 (fun H locs hP hD hS => ?_)
      have hP : va_P D vwCl [(mo, .inr (7, [.ref mo_st, .ref mo_at, .ref mo_isKept, .int 0, .int 2, .ref mo_draft, .int 0, .int 2, .int 0, .int (-4), .ref mo_tape, .int 0, .int 0, .int 0, .int 0, .int 0, .int 0, .int 0, .ref mo_row, .int 0, .int 0, .int 0, .int 0, .ref mo_before, .long 0, .long 0, .long 0, .ref mo_lanes, .ref mo_sizes, .ref mo_cells, .int 0, .ref mo_had])), (mo_st, .inl (k 0, 132, .inl (hst))), (mo_at, .inl (k 0, 44, .inl (upd (upd (upd (upd (upd (upd (upd hst 1 0) 1 1) 1 2) 1 3) 1 4) 1 5) 1 6)))] H := hP
      have hD : va_D A [(mo, .inr (7, [.ref mo_st, .ref mo_at, .ref mo_isKept, .int 0, .int 2, .ref mo_draft, .int 0, .int 2, .int 0, .int (-4), .ref mo_tape, .int 0, .int 0, .int 0, .int 0, .int 0, .int 0, .int 0, .ref mo_row, .int 0, .int 0, .int 0, .int 0, .ref mo_before, .long 0, .long 0, .long 0, .ref mo_lanes, .ref mo_sizes, .ref mo_cells, .int 0, .ref mo_had])), (mo_st, .inl (k 0, 132, .inl (hst))), (mo_at, .inl (k 0, 44, .inl (upd (upd (upd (upd (upd (upd (upd hst 1 0) 1 1) 1 2) 1 3) 1 4) 1 5) 1 6)))] := hD
      refine lv_iload_n hx hb dX8_fits_33 rfl (lv_at hl 1 rfl) ?_
      refine lv_aload_n hx hb dX8_fits_34 rfl (lv_at hl 2 rfl) ?_
      refine hs_ci (va_runV (As := []) (rest := [.int 63]) ⟨hx, hb, hml, hown, hts⟩ (m_isSo0 l D k _ mo mo_st mo_at mo_isKept 0 2 mo_draft 0 2 0 (-4) mo_tape 0 0 0 0 0 0 0 mo_row 0 0 0 0 mo_before 0 0 0 mo_lanes mo_sizes mo_cells 0 mo_had (upd (upd (upd (upd (upd (upd (upd hst 1 0) 1 1) 1 2) 1 3) 1 4) 1 5) 1 6) rfl) (cwV 0 hts gX8_fits_X8_isSo rfl rfl rfl (by decide +kernel) ⟨Nat.le_of_ble_eq_true rfl, Nat.le_of_ble_eq_true rfl⟩) (hs_preV hK hN (hs_subP (w := [(mo, .inr (7, [.ref mo_st, .ref mo_at, .ref mo_isKept, .int 0, .int 2, .ref mo_draft, .int 0, .int 2, .int 0, .int (-4), .ref mo_tape, .int 0, .int 0, .int 0, .int 0, .int 0, .int 0, .int 0, .ref mo_row, .int 0, .int 0, .int 0, .int 0, .ref mo_before, .long 0, .long 0, .long 0, .ref mo_lanes, .ref mo_sizes, .ref mo_cells, .int 0, .ref mo_had])), (mo_at, .inl (k 0, 44, .inl (upd (upd (upd (upd (upd (upd (upd hst 1 0) 1 1) 1 2) 1 3) 1 4) 1 5) 1 6)))]) hP [0, 2] rfl) (hD.sub (ws' := [(mo, .inr (7, [.ref mo_st, .ref mo_at, .ref mo_isKept, .int 0, .int 2, .ref mo_draft, .int 0, .int 2, .int 0, .int (-4), .ref mo_tape, .int 0, .int 0, .int 0, .int 0, .int 0, .int 0, .int 0, .ref mo_row, .int 0, .int 0, .int 0, .int 0, .ref mo_before, .long 0, .long 0, .long 0, .ref mo_lanes, .ref mo_sizes, .ref mo_cells, .int 0, .ref mo_had])), (mo_at, .inl (k 0, 44, .inl (upd (upd (upd (upd (upd (upd (upd hst 1 0) 1 1) 1 2) 1 3) 1 4) 1 5) 1 6)))]) [0, 2] (by decide) rfl) (ci := 7) (q0 := 0) rfl rfl) rfl rfl hl.1 rfl (lv_room (Nat.le_of_ble_eq_true rfl)) dX8_fits_35 ⟨Nat.le_of_ble_eq_true rfl, Nat.le_of_ble_eq_true rfl⟩) hP hD hS hA [0, 2] [1] [(mo_st, .inl (k 0, 132, .inl (hst)))] rfl rfl (by decide) (by decide) [1, 0, 2] (fun u_53 => [(mo, .inr (7, [.ref mo_st, .ref mo_at, .ref mo_isKept, .int 0, .int 2, .ref mo_draft, .int 0, .int 2, .int 0, .int (-4), .ref mo_tape, .int 0, .int 0, .int 0, .int 0, .int 0, .int 0, .int 0, .ref mo_row, .int 0, .int 0, .int 0, .int 0, .ref mo_before, .long 0, .long 0, .long 0, .ref mo_lanes, .ref mo_sizes, .ref mo_cells, .int 0, .ref mo_had])), (mo_st, .inl (k 0, 132, .inl (hst))), (mo_at, .inl (k 0, 44, .inl (upd (upd (upd (upd (upd (upd (upd hst 1 0) 1 1) 1 2) 1 3) 1 4) 1 5) 1 6)))]) (fun _ => rfl) (by decide) (fun r_51 u_53 H locs hw_52 hP hD hS => ?_)
      have hP : va_P D vwCl [(mo, .inr (7, [.ref mo_st, .ref mo_at, .ref mo_isKept, .int 0, .int 2, .ref mo_draft, .int 0, .int 2, .int 0, .int (-4), .ref mo_tape, .int 0, .int 0, .int 0, .int 0, .int 0, .int 0, .int 0, .ref mo_row, .int 0, .int 0, .int 0, .int 0, .ref mo_before, .long 0, .long 0, .long 0, .ref mo_lanes, .ref mo_sizes, .ref mo_cells, .int 0, .ref mo_had])), (mo_st, .inl (k 0, 132, .inl (hst))), (mo_at, .inl (k 0, 44, .inl (upd (upd (upd (upd (upd (upd (upd hst 1 0) 1 1) 1 2) 1 3) 1 4) 1 5) 1 6)))] H := hP
      have hD : va_D A [(mo, .inr (7, [.ref mo_st, .ref mo_at, .ref mo_isKept, .int 0, .int 2, .ref mo_draft, .int 0, .int 2, .int 0, .int (-4), .ref mo_tape, .int 0, .int 0, .int 0, .int 0, .int 0, .int 0, .int 0, .ref mo_row, .int 0, .int 0, .int 0, .int 0, .ref mo_before, .long 0, .long 0, .long 0, .ref mo_lanes, .ref mo_sizes, .ref mo_cells, .int 0, .ref mo_had])), (mo_st, .inl (k 0, 132, .inl (hst))), (mo_at, .inl (k 0, 44, .inl (upd (upd (upd (upd (upd (upd (upd hst 1 0) 1 1) 1 2) 1 3) 1 4) 1 5) 1 6)))] := hD
      refine hs_topi 1 (hw_52.trans (by first | rfl | decide +kernel | rfl)) ?_
      refine hs_pi (va_runS (As := [.int 1]) (rest := [.int 63]) ⟨hx, hb, hml, hown, hts⟩ (m_flag1 l D k _ ) (va_cwS 1 hts gX8_fits_X8_flag rfl rfl rfl (by decide +kernel) ⟨Nat.le_of_ble_eq_true rfl, Nat.le_of_ble_eq_true rfl⟩) (hs_preS hK hN (hs_subP (w := []) hP [] rfl) (hD.sub (ws' := []) [] (by decide) rfl)) rfl rfl hl.1 rfl (lv_room (Nat.le_of_ble_eq_true rfl)) dX8_fits_38 ⟨Nat.le_of_ble_eq_true rfl, Nat.le_of_ble_eq_true rfl⟩) hP hD hS hA (fun r_54 u_56 H locs hw_55 hP hS => ?_)
      refine hs_topi 1 (hw_55.trans (by first | rfl | decide +kernel | rfl)) ?_
      refine lv_iload_n hx hb dX8_fits_41 rfl (lv_at hl 0 rfl) ?_
      refine lv_ishl hx hb dX8_fits_42 ?_
      refine hs_topi 64 (by first | rfl | decide +kernel) ?_
      refine lv_ior hx hb dX8_fits_43 ?_
      refine hs_topi 127 (by first | rfl | decide +kernel) ?_
      refine lv_istore_n (lv' := [(2, .int 127), (3, .int 6), (0, .ref mo), (1, .int 0)]) hx hb dX8_fits_44 rfl hl (by decide) rfl (fun ls hl => ?_)
      refine lv_iinc (v := 7) (lv' := [(3, .int 7), (2, .int 127), (0, .ref mo), (1, .int 0)]) hx hb dX8_fits_45 hl (k := 1) rfl (by decide) (by decide) rfl (fun ls hl => ?_)
      refine lv_goto (tgt := 18) hx hb dX8_fits_48 (by decide) ?_
      refine lv_iload_n hx hb dX8_fits_18 rfl (lv_at hl 0 rfl) ?_
      refine lv_bipush (v := 9) hx hb dX8_fits_19 (by decide) ?_
      refine lv_icmp_gt (tgt := 51) hx hb dX8_fits_21 (by decide) (fun c_57 => absurd c_57 (by decide)) (fun c_57 => ?_)
      refine lv_aload_n hx hb dX8_fits_24 rfl (lv_at hl 2 rfl) ?_
      refine va_get (D := D) (ci := 7) (v := .ref mo_at) (C := RX8) (T := TX8) (N := 32) hx hb hts hiX8 hown hK hP 0 rfl rfl 1 (by decide) fl13 (fun _ h9 => h9) rfl dX8_fits_25 ?_
      refine lv_iconst (v := 1) hx hb dX8_fits_28 (by decide) ?_
      refine lv_iload_n hx hb dX8_fits_29 rfl (lv_at hl 3 rfl) ?_
      refine lv_iadd hx hb dX8_fits_30 ?_
      refine hs_topi 1 (by first | rfl | decide +kernel) ?_
      refine lv_iload_n hx hb dX8_fits_31 rfl (lv_at hl 0 rfl) ?_
      refine va_iast hx hb hK hP hD hS 2 0 rfl rfl (hs_in (by decide)) dX8_fits_32 (fun H locs hP hD hS => ?_)
      have hP : va_P D vwCl [(mo, .inr (7, [.ref mo_st, .ref mo_at, .ref mo_isKept, .int 0, .int 2, .ref mo_draft, .int 0, .int 2, .int 0, .int (-4), .ref mo_tape, .int 0, .int 0, .int 0, .int 0, .int 0, .int 0, .int 0, .ref mo_row, .int 0, .int 0, .int 0, .int 0, .ref mo_before, .long 0, .long 0, .long 0, .ref mo_lanes, .ref mo_sizes, .ref mo_cells, .int 0, .ref mo_had])), (mo_st, .inl (k 0, 132, .inl (hst))), (mo_at, .inl (k 0, 44, .inl (upd (upd (upd (upd (upd (upd (upd (upd hst 1 0) 1 1) 1 2) 1 3) 1 4) 1 5) 1 6) 1 7)))] H := hP
      have hD : va_D A [(mo, .inr (7, [.ref mo_st, .ref mo_at, .ref mo_isKept, .int 0, .int 2, .ref mo_draft, .int 0, .int 2, .int 0, .int (-4), .ref mo_tape, .int 0, .int 0, .int 0, .int 0, .int 0, .int 0, .int 0, .ref mo_row, .int 0, .int 0, .int 0, .int 0, .ref mo_before, .long 0, .long 0, .long 0, .ref mo_lanes, .ref mo_sizes, .ref mo_cells, .int 0, .ref mo_had])), (mo_st, .inl (k 0, 132, .inl (hst))), (mo_at, .inl (k 0, 44, .inl (upd (upd (upd (upd (upd (upd (upd (upd hst 1 0) 1 1) 1 2) 1 3) 1 4) 1 5) 1 6) 1 7)))] := hD
      refine lv_iload_n hx hb dX8_fits_33 rfl (lv_at hl 1 rfl) ?_
      refine lv_aload_n hx hb dX8_fits_34 rfl (lv_at hl 2 rfl) ?_
      refine hs_ci (va_runV (As := []) (rest := [.int 127]) ⟨hx, hb, hml, hown, hts⟩ (m_isSo0 l D k _ mo mo_st mo_at mo_isKept 0 2 mo_draft 0 2 0 (-4) mo_tape 0 0 0 0 0 0 0 mo_row 0 0 0 0 mo_before 0 0 0 mo_lanes mo_sizes mo_cells 0 mo_had (upd (upd (upd (upd (upd (upd (upd (upd hst 1 0) 1 1) 1 2) 1 3) 1 4) 1 5) 1 6) 1 7) rfl) (cwV 0 hts gX8_fits_X8_isSo rfl rfl rfl (by decide +kernel) ⟨Nat.le_of_ble_eq_true rfl, Nat.le_of_ble_eq_true rfl⟩) (hs_preV hK hN (hs_subP (w := [(mo, .inr (7, [.ref mo_st, .ref mo_at, .ref mo_isKept, .int 0, .int 2, .ref mo_draft, .int 0, .int 2, .int 0, .int (-4), .ref mo_tape, .int 0, .int 0, .int 0, .int 0, .int 0, .int 0, .int 0, .ref mo_row, .int 0, .int 0, .int 0, .int 0, .ref mo_before, .long 0, .long 0, .long 0, .ref mo_lanes, .ref mo_sizes, .ref mo_cells, .int 0, .ref mo_had])), (mo_at, .inl (k 0, 44, .inl (upd (upd (upd (upd (upd (upd (upd (upd hst 1 0) 1 1) 1 2) 1 3) 1 4) 1 5) 1 6) 1 7)))]) hP [0, 2] rfl) (hD.sub (ws' := [(mo, .inr (7, [.ref mo_st, .ref mo_at, .ref mo_isKept, .int 0, .int 2, .ref mo_draft, .int 0, .int 2, .int 0, .int (-4), .ref mo_tape, .int 0, .int 0, .int 0, .int 0, .int 0, .int 0, .int 0, .ref mo_row, .int 0, .int 0, .int 0, .int 0, .ref mo_before, .long 0, .long 0, .long 0, .ref mo_lanes, .ref mo_sizes, .ref mo_cells, .int 0, .ref mo_had])), (mo_at, .inl (k 0, 44, .inl (upd (upd (upd (upd (upd (upd (upd (upd hst 1 0) 1 1) 1 2) 1 3) 1 4) 1 5) 1 6) 1 7)))]) [0, 2] (by decide) rfl) (ci := 7) (q0 := 0) rfl rfl) rfl rfl hl.1 rfl (lv_room (Nat.le_of_ble_eq_true rfl)) dX8_fits_35 ⟨Nat.le_of_ble_eq_true rfl, Nat.le_of_ble_eq_true rfl⟩) hP hD hS hA [0, 2] [1] [(mo_st, .inl (k 0, 132, .inl (hst)))] rfl rfl (by decide) (by decide) [1, 0, 2] (fun u_60 => [(mo, .inr (7, [.ref mo_st, .ref mo_at, .ref mo_isKept, .int 0, .int 2, .ref mo_draft, .int 0, .int 2, .int 0, .int (-4), .ref mo_tape, .int 0, .int 0, .int 0, .int 0, .int 0, .int 0, .int 0, .ref mo_row, .int 0, .int 0, .int 0, .int 0, .ref mo_before, .long 0, .long 0, .long 0, .ref mo_lanes, .ref mo_sizes, .ref mo_cells, .int 0, .ref mo_had])), (mo_st, .inl (k 0, 132, .inl (hst))), (mo_at, .inl (k 0, 44, .inl (upd (upd (upd (upd (upd (upd (upd (upd hst 1 0) 1 1) 1 2) 1 3) 1 4) 1 5) 1 6) 1 7)))]) (fun _ => rfl) (by decide) (fun r_58 u_60 H locs hw_59 hP hD hS => ?_)
      have hP : va_P D vwCl [(mo, .inr (7, [.ref mo_st, .ref mo_at, .ref mo_isKept, .int 0, .int 2, .ref mo_draft, .int 0, .int 2, .int 0, .int (-4), .ref mo_tape, .int 0, .int 0, .int 0, .int 0, .int 0, .int 0, .int 0, .ref mo_row, .int 0, .int 0, .int 0, .int 0, .ref mo_before, .long 0, .long 0, .long 0, .ref mo_lanes, .ref mo_sizes, .ref mo_cells, .int 0, .ref mo_had])), (mo_st, .inl (k 0, 132, .inl (hst))), (mo_at, .inl (k 0, 44, .inl (upd (upd (upd (upd (upd (upd (upd (upd hst 1 0) 1 1) 1 2) 1 3) 1 4) 1 5) 1 6) 1 7)))] H := hP
      have hD : va_D A [(mo, .inr (7, [.ref mo_st, .ref mo_at, .ref mo_isKept, .int 0, .int 2, .ref mo_draft, .int 0, .int 2, .int 0, .int (-4), .ref mo_tape, .int 0, .int 0, .int 0, .int 0, .int 0, .int 0, .int 0, .ref mo_row, .int 0, .int 0, .int 0, .int 0, .ref mo_before, .long 0, .long 0, .long 0, .ref mo_lanes, .ref mo_sizes, .ref mo_cells, .int 0, .ref mo_had])), (mo_st, .inl (k 0, 132, .inl (hst))), (mo_at, .inl (k 0, 44, .inl (upd (upd (upd (upd (upd (upd (upd (upd hst 1 0) 1 1) 1 2) 1 3) 1 4) 1 5) 1 6) 1 7)))] := hD
      refine hs_topi 1 (hw_59.trans (by first | rfl | decide +kernel | rfl)) ?_
      refine hs_pi (va_runS (As := [.int 1]) (rest := [.int 127]) ⟨hx, hb, hml, hown, hts⟩ (m_flag1 l D k _ ) (va_cwS 1 hts gX8_fits_X8_flag rfl rfl rfl (by decide +kernel) ⟨Nat.le_of_ble_eq_true rfl, Nat.le_of_ble_eq_true rfl⟩) (hs_preS hK hN (hs_subP (w := []) hP [] rfl) (hD.sub (ws' := []) [] (by decide) rfl)) rfl rfl hl.1 rfl (lv_room (Nat.le_of_ble_eq_true rfl)) dX8_fits_38 ⟨Nat.le_of_ble_eq_true rfl, Nat.le_of_ble_eq_true rfl⟩) hP hD hS hA (fun r_61 u_63 H locs hw_62 hP hS => ?_)
      refine hs_topi 1 (hw_62.trans (by first | rfl | decide +kernel | rfl)) ?_
      refine lv_iload_n hx hb dX8_fits_41 rfl (lv_at hl 0 rfl) ?_
      refine lv_ishl hx hb dX8_fits_42 ?_
      refine hs_topi 128 (by first | rfl | decide +kernel) ?_
      refine lv_ior hx hb dX8_fits_43 ?_
      refine hs_topi 255 (by first | rfl | decide +kernel) ?_
      refine lv_istore_n (lv' := [(2, .int 255), (3, .int 7), (0, .ref mo), (1, .int 0)]) hx hb dX8_fits_44 rfl hl (by decide) rfl (fun ls hl => ?_)
      refine lv_iinc (v := 8) (lv' := [(3, .int 8), (2, .int 255), (0, .ref mo), (1, .int 0)]) hx hb dX8_fits_45 hl (k := 1) rfl (by decide) (by decide) rfl (fun ls hl => ?_)
      refine lv_goto (tgt := 18) hx hb dX8_fits_48 (by decide) ?_
      refine lv_iload_n hx hb dX8_fits_18 rfl (lv_at hl 0 rfl) ?_
      refine lv_bipush (v := 9) hx hb dX8_fits_19 (by decide) ?_
      refine lv_icmp_gt (tgt := 51) hx hb dX8_fits_21 (by decide) (fun c_64 => absurd c_64 (by decide)) (fun c_64 => ?_)
      refine lv_aload_n hx hb dX8_fits_24 rfl (lv_at hl 2 rfl) ?_
      refine va_get (D := D) (ci := 7) (v := .ref mo_at) (C := RX8) (T := TX8) (N := 32) hx hb hts hiX8 hown hK hP 0 rfl rfl 1 (by decide) fl13 (fun _ h9 => h9) rfl dX8_fits_25 ?_
      refine lv_iconst (v := 1) hx hb dX8_fits_28 (by decide) ?_
      refine lv_iload_n hx hb dX8_fits_29 rfl (lv_at hl 3 rfl) ?_
      refine lv_iadd hx hb dX8_fits_30 ?_
      refine hs_topi 1 (by first | rfl | decide +kernel) ?_
      refine lv_iload_n hx hb dX8_fits_31 rfl (lv_at hl 0 rfl) ?_
      refine va_iast hx hb hK hP hD hS 2 0 rfl rfl (hs_in (by decide)) dX8_fits_32 (fun H locs hP hD hS => ?_)
      have hP : va_P D vwCl [(mo, .inr (7, [.ref mo_st, .ref mo_at, .ref mo_isKept, .int 0, .int 2, .ref mo_draft, .int 0, .int 2, .int 0, .int (-4), .ref mo_tape, .int 0, .int 0, .int 0, .int 0, .int 0, .int 0, .int 0, .ref mo_row, .int 0, .int 0, .int 0, .int 0, .ref mo_before, .long 0, .long 0, .long 0, .ref mo_lanes, .ref mo_sizes, .ref mo_cells, .int 0, .ref mo_had])), (mo_st, .inl (k 0, 132, .inl (hst))), (mo_at, .inl (k 0, 44, .inl (upd (upd (upd (upd (upd (upd (upd (upd (upd hst 1 0) 1 1) 1 2) 1 3) 1 4) 1 5) 1 6) 1 7) 1 8)))] H := hP
      have hD : va_D A [(mo, .inr (7, [.ref mo_st, .ref mo_at, .ref mo_isKept, .int 0, .int 2, .ref mo_draft, .int 0, .int 2, .int 0, .int (-4), .ref mo_tape, .int 0, .int 0, .int 0, .int 0, .int 0, .int 0, .int 0, .ref mo_row, .int 0, .int 0, .int 0, .int 0, .ref mo_before, .long 0, .long 0, .long 0, .ref mo_lanes, .ref mo_sizes, .ref mo_cells, .int 0, .ref mo_had])), (mo_st, .inl (k 0, 132, .inl (hst))), (mo_at, .inl (k 0, 44, .inl (upd (upd (upd (upd (upd (upd (upd (upd (upd hst 1 0) 1 1) 1 2) 1 3) 1 4) 1 5) 1 6) 1 7) 1 8)))] := hD
      refine lv_iload_n hx hb dX8_fits_33 rfl (lv_at hl 1 rfl) ?_
      refine lv_aload_n hx hb dX8_fits_34 rfl (lv_at hl 2 rfl) ?_
      refine hs_ci (va_runV (As := []) (rest := [.int 255]) ⟨hx, hb, hml, hown, hts⟩ (m_isSo0 l D k _ mo mo_st mo_at mo_isKept 0 2 mo_draft 0 2 0 (-4) mo_tape 0 0 0 0 0 0 0 mo_row 0 0 0 0 mo_before 0 0 0 mo_lanes mo_sizes mo_cells 0 mo_had (upd (upd (upd (upd (upd (upd (upd (upd (upd hst 1 0) 1 1) 1 2) 1 3) 1 4) 1 5) 1 6) 1 7) 1 8) rfl) (cwV 0 hts gX8_fits_X8_isSo rfl rfl rfl (by decide +kernel) ⟨Nat.le_of_ble_eq_true rfl, Nat.le_of_ble_eq_true rfl⟩) (hs_preV hK hN (hs_subP (w := [(mo, .inr (7, [.ref mo_st, .ref mo_at, .ref mo_isKept, .int 0, .int 2, .ref mo_draft, .int 0, .int 2, .int 0, .int (-4), .ref mo_tape, .int 0, .int 0, .int 0, .int 0, .int 0, .int 0, .int 0, .ref mo_row, .int 0, .int 0, .int 0, .int 0, .ref mo_before, .long 0, .long 0, .long 0, .ref mo_lanes, .ref mo_sizes, .ref mo_cells, .int 0, .ref mo_had])), (mo_at, .inl (k 0, 44, .inl (upd (upd (upd (upd (upd (upd (upd (upd (upd hst 1 0) 1 1) 1 2) 1 3) 1 4) 1 5) 1 6) 1 7) 1 8)))]) hP [0, 2] rfl) (hD.sub (ws' := [(mo, .inr (7, [.ref mo_st, .ref mo_at, .ref mo_isKept, .int 0, .int 2, .ref mo_draft, .int 0, .int 2, .int 0, .int (-4), .ref mo_tape, .int 0, .int 0, .int 0, .int 0, .int 0, .int 0, .int 0, .ref mo_row, .int 0, .int 0, .int 0, .int 0, .ref mo_before, .long 0, .long 0, .long 0, .ref mo_lanes, .ref mo_sizes, .ref mo_cells, .int 0, .ref mo_had])), (mo_at, .inl (k 0, 44, .inl (upd (upd (upd (upd (upd (upd (upd (upd (upd hst 1 0) 1 1) 1 2) 1 3) 1 4) 1 5) 1 6) 1 7) 1 8)))]) [0, 2] (by decide) rfl) (ci := 7) (q0 := 0) rfl rfl) rfl rfl hl.1 rfl (lv_room (Nat.le_of_ble_eq_true rfl)) dX8_fits_35 ⟨Nat.le_of_ble_eq_true rfl, Nat.le_of_ble_eq_true rfl⟩) hP hD hS hA [0, 2] [1] [(mo_st, .inl (k 0, 132, .inl (hst)))] rfl rfl (by decide) (by decide) [1, 0, 2] (fun u_67 => [(mo, .inr (7, [.ref mo_st, .ref mo_at, .ref mo_isKept, .int 0, .int 2, .ref mo_draft, .int 0, .int 2, .int 0, .int (-4), .ref mo_tape, .int 0, .int 0, .int 0, .int 0, .int 0, .int 0, .int 0, .ref mo_row, .int 0, .int 0, .int 0, .int 0, .ref mo_before, .long 0, .long 0, .long 0, .ref mo_lanes, .ref mo_sizes, .ref mo_cells, .int 0, .ref mo_had])), (mo_st, .inl (k 0, 132, .inl (hst))), (mo_at, .inl (k 0, 44, .inl (upd (upd (upd (upd (upd (upd (upd (upd (upd hst 1 0) 1 1) 1 2) 1 3) 1 4) 1 5) 1 6) 1 7) 1 8)))]) (fun _ => rfl) (by decide) (fun r_65 u_67 H locs hw_66 hP hD hS => ?_)
      have hP : va_P D vwCl [(mo, .inr (7, [.ref mo_st, .ref mo_at, .ref mo_isKept, .int 0, .int 2, .ref mo_draft, .int 0, .int 2, .int 0, .int (-4), .ref mo_tape, .int 0, .int 0, .int 0, .int 0, .int 0, .int 0, .int 0, .ref mo_row, .int 0, .int 0, .int 0, .int 0, .ref mo_before, .long 0, .long 0, .long 0, .ref mo_lanes, .ref mo_sizes, .ref mo_cells, .int 0, .ref mo_had])), (mo_st, .inl (k 0, 132, .inl (hst))), (mo_at, .inl (k 0, 44, .inl (upd (upd (upd (upd (upd (upd (upd (upd (upd hst 1 0) 1 1) 1 2) 1 3) 1 4) 1 5) 1 6) 1 7) 1 8)))] H := hP
      have hD : va_D A [(mo, .inr (7, [.ref mo_st, .ref mo_at, .ref mo_isKept, .int 0, .int 2, .ref mo_draft, .int 0, .int 2, .int 0, .int (-4), .ref mo_tape, .int 0, .int 0, .int 0, .int 0, .int 0, .int 0, .int 0, .ref mo_row, .int 0, .int 0, .int 0, .int 0, .ref mo_before, .long 0, .long 0, .long 0, .ref mo_lanes, .ref mo_sizes, .ref mo_cells, .int 0, .ref mo_had])), (mo_st, .inl (k 0, 132, .inl (hst))), (mo_at, .inl (k 0, 44, .inl (upd (upd (upd (upd (upd (upd (upd (upd (upd hst 1 0) 1 1) 1 2) 1 3) 1 4) 1 5) 1 6) 1 7) 1 8)))] := hD
      refine hs_topi 1 (hw_66.trans (by first | rfl | decide +kernel | rfl)) ?_
      refine hs_pi (va_runS (As := [.int 1]) (rest := [.int 255]) ⟨hx, hb, hml, hown, hts⟩ (m_flag1 l D k _ ) (va_cwS 1 hts gX8_fits_X8_flag rfl rfl rfl (by decide +kernel) ⟨Nat.le_of_ble_eq_true rfl, Nat.le_of_ble_eq_true rfl⟩) (hs_preS hK hN (hs_subP (w := []) hP [] rfl) (hD.sub (ws' := []) [] (by decide) rfl)) rfl rfl hl.1 rfl (lv_room (Nat.le_of_ble_eq_true rfl)) dX8_fits_38 ⟨Nat.le_of_ble_eq_true rfl, Nat.le_of_ble_eq_true rfl⟩) hP hD hS hA (fun r_68 u_70 H locs hw_69 hP hS => ?_)
      refine hs_topi 1 (hw_69.trans (by first | rfl | decide +kernel | rfl)) ?_
      refine lv_iload_n hx hb dX8_fits_41 rfl (lv_at hl 0 rfl) ?_
      refine lv_ishl hx hb dX8_fits_42 ?_
      refine hs_topi 256 (by first | rfl | decide +kernel) ?_
      refine lv_ior hx hb dX8_fits_43 ?_
      refine hs_topi 511 (by first | rfl | decide +kernel) ?_
      refine lv_istore_n (lv' := [(2, .int 511), (3, .int 8), (0, .ref mo), (1, .int 0)]) hx hb dX8_fits_44 rfl hl (by decide) rfl (fun ls hl => ?_)
      refine lv_iinc (v := 9) (lv' := [(3, .int 9), (2, .int 511), (0, .ref mo), (1, .int 0)]) hx hb dX8_fits_45 hl (k := 1) rfl (by decide) (by decide) rfl (fun ls hl => ?_)
      refine lv_goto (tgt := 18) hx hb dX8_fits_48 (by decide) ?_
      refine lv_iload_n hx hb dX8_fits_18 rfl (lv_at hl 0 rfl) ?_
      refine lv_bipush (v := 9) hx hb dX8_fits_19 (by decide) ?_
      refine lv_icmp_gt (tgt := 51) hx hb dX8_fits_21 (by decide) (fun c_71 => absurd c_71 (by decide)) (fun c_71 => ?_)
      refine lv_aload_n hx hb dX8_fits_24 rfl (lv_at hl 2 rfl) ?_
      refine va_get (D := D) (ci := 7) (v := .ref mo_at) (C := RX8) (T := TX8) (N := 32) hx hb hts hiX8 hown hK hP 0 rfl rfl 1 (by decide) fl13 (fun _ h9 => h9) rfl dX8_fits_25 ?_
      refine lv_iconst (v := 1) hx hb dX8_fits_28 (by decide) ?_
      refine lv_iload_n hx hb dX8_fits_29 rfl (lv_at hl 3 rfl) ?_
      refine lv_iadd hx hb dX8_fits_30 ?_
      refine hs_topi 1 (by first | rfl | decide +kernel) ?_
      refine lv_iload_n hx hb dX8_fits_31 rfl (lv_at hl 0 rfl) ?_
      refine va_iast hx hb hK hP hD hS 2 0 rfl rfl (hs_in (by decide)) dX8_fits_32 (fun H locs hP hD hS => ?_)
      have hP : va_P D vwCl [(mo, .inr (7, [.ref mo_st, .ref mo_at, .ref mo_isKept, .int 0, .int 2, .ref mo_draft, .int 0, .int 2, .int 0, .int (-4), .ref mo_tape, .int 0, .int 0, .int 0, .int 0, .int 0, .int 0, .int 0, .ref mo_row, .int 0, .int 0, .int 0, .int 0, .ref mo_before, .long 0, .long 0, .long 0, .ref mo_lanes, .ref mo_sizes, .ref mo_cells, .int 0, .ref mo_had])), (mo_st, .inl (k 0, 132, .inl (hst))), (mo_at, .inl (k 0, 44, .inl (upd (upd (upd (upd (upd (upd (upd (upd (upd (upd hst 1 0) 1 1) 1 2) 1 3) 1 4) 1 5) 1 6) 1 7) 1 8) 1 9)))] H := hP
      have hD : va_D A [(mo, .inr (7, [.ref mo_st, .ref mo_at, .ref mo_isKept, .int 0, .int 2, .ref mo_draft, .int 0, .int 2, .int 0, .int (-4), .ref mo_tape, .int 0, .int 0, .int 0, .int 0, .int 0, .int 0, .int 0, .ref mo_row, .int 0, .int 0, .int 0, .int 0, .ref mo_before, .long 0, .long 0, .long 0, .ref mo_lanes, .ref mo_sizes, .ref mo_cells, .int 0, .ref mo_had])), (mo_st, .inl (k 0, 132, .inl (hst))), (mo_at, .inl (k 0, 44, .inl (upd (upd (upd (upd (upd (upd (upd (upd (upd (upd hst 1 0) 1 1) 1 2) 1 3) 1 4) 1 5) 1 6) 1 7) 1 8) 1 9)))] := hD
      refine lv_iload_n hx hb dX8_fits_33 rfl (lv_at hl 1 rfl) ?_
      refine lv_aload_n hx hb dX8_fits_34 rfl (lv_at hl 2 rfl) ?_
      refine hs_ci (va_runV (As := []) (rest := [.int 511]) ⟨hx, hb, hml, hown, hts⟩ (m_isSo0 l D k _ mo mo_st mo_at mo_isKept 0 2 mo_draft 0 2 0 (-4) mo_tape 0 0 0 0 0 0 0 mo_row 0 0 0 0 mo_before 0 0 0 mo_lanes mo_sizes mo_cells 0 mo_had (upd (upd (upd (upd (upd (upd (upd (upd (upd (upd hst 1 0) 1 1) 1 2) 1 3) 1 4) 1 5) 1 6) 1 7) 1 8) 1 9) rfl) (cwV 0 hts gX8_fits_X8_isSo rfl rfl rfl (by decide +kernel) ⟨Nat.le_of_ble_eq_true rfl, Nat.le_of_ble_eq_true rfl⟩) (hs_preV hK hN (hs_subP (w := [(mo, .inr (7, [.ref mo_st, .ref mo_at, .ref mo_isKept, .int 0, .int 2, .ref mo_draft, .int 0, .int 2, .int 0, .int (-4), .ref mo_tape, .int 0, .int 0, .int 0, .int 0, .int 0, .int 0, .int 0, .ref mo_row, .int 0, .int 0, .int 0, .int 0, .ref mo_before, .long 0, .long 0, .long 0, .ref mo_lanes, .ref mo_sizes, .ref mo_cells, .int 0, .ref mo_had])), (mo_at, .inl (k 0, 44, .inl (upd (upd (upd (upd (upd (upd (upd (upd (upd (upd hst 1 0) 1 1) 1 2) 1 3) 1 4) 1 5) 1 6) 1 7) 1 8) 1 9)))]) hP [0, 2] rfl) (hD.sub (ws' := [(mo, .inr (7, [.ref mo_st, .ref mo_at, .ref mo_isKept, .int 0, .int 2, .ref mo_draft, .int 0, .int 2, .int 0, .int (-4), .ref mo_tape, .int 0, .int 0, .int 0, .int 0, .int 0, .int 0, .int 0, .ref mo_row, .int 0, .int 0, .int 0, .int 0, .ref mo_before, .long 0, .long 0, .long 0, .ref mo_lanes, .ref mo_sizes, .ref mo_cells, .int 0, .ref mo_had])), (mo_at, .inl (k 0, 44, .inl (upd (upd (upd (upd (upd (upd (upd (upd (upd (upd hst 1 0) 1 1) 1 2) 1 3) 1 4) 1 5) 1 6) 1 7) 1 8) 1 9)))]) [0, 2] (by decide) rfl) (ci := 7) (q0 := 0) rfl rfl) rfl rfl hl.1 rfl (lv_room (Nat.le_of_ble_eq_true rfl)) dX8_fits_35 ⟨Nat.le_of_ble_eq_true rfl, Nat.le_of_ble_eq_true rfl⟩) hP hD hS hA [0, 2] [1] [(mo_st, .inl (k 0, 132, .inl (hst)))] rfl rfl (by decide) (by decide) [1, 0, 2] (fun u_74 => [(mo, .inr (7, [.ref mo_st, .ref mo_at, .ref mo_isKept, .int 0, .int 2, .ref mo_draft, .int 0, .int 2, .int 0, .int (-4), .ref mo_tape, .int 0, .int 0, .int 0, .int 0, .int 0, .int 0, .int 0, .ref mo_row, .int 0, .int 0, .int 0, .int 0, .ref mo_before, .long 0, .long 0, .long 0, .ref mo_lanes, .ref mo_sizes, .ref mo_cells, .int 0, .ref mo_had])), (mo_st, .inl (k 0, 132, .inl (hst))), (mo_at, .inl (k 0, 44, .inl (upd (upd (upd (upd (upd (upd (upd (upd (upd (upd hst 1 0) 1 1) 1 2) 1 3) 1 4) 1 5) 1 6) 1 7) 1 8) 1 9)))]) (fun _ => rfl) (by decide) (fun r_72 u_74 H locs hw_73 hP hD hS => ?_)
      have hP : va_P D vwCl [(mo, .inr (7, [.ref mo_st, .ref mo_at, .ref mo_isKept, .int 0, .int 2, .ref mo_draft, .int 0, .int 2, .int 0, .int (-4), .ref mo_tape, .int 0, .int 0, .int 0, .int 0, .int 0, .int 0, .int 0, .ref mo_row, .int 0, .int 0, .int 0, .int 0, .ref mo_before, .long 0, .long 0, .long 0, .ref mo_lanes, .ref mo_sizes, .ref mo_cells, .int 0, .ref mo_had])), (mo_st, .inl (k 0, 132, .inl (hst))), (mo_at, .inl (k 0, 44, .inl (upd (upd (upd (upd (upd (upd (upd (upd (upd (upd hst 1 0) 1 1) 1 2) 1 3) 1 4) 1 5) 1 6) 1 7) 1 8) 1 9)))] H := hP
      have hD : va_D A [(mo, .inr (7, [.ref mo_st, .ref mo_at, .ref mo_isKept, .int 0, .int 2, .ref mo_draft, .int 0, .int 2, .int 0, .int (-4), .ref mo_tape, .int 0, .int 0, .int 0, .int 0, .int 0, .int 0, .int 0, .ref mo_row, .int 0, .int 0, .int 0, .int 0, .ref mo_before, .long 0, .long 0, .long 0, .ref mo_lanes, .ref mo_sizes, .ref mo_cells, .int 0, .ref mo_had])), (mo_st, .inl (k 0, 132, .inl (hst))), (mo_at, .inl (k 0, 44, .inl (upd (upd (upd (upd (upd (upd (upd (upd (upd (upd hst 1 0) 1 1) 1 2) 1 3) 1 4) 1 5) 1 6) 1 7) 1 8) 1 9)))] := hD
      refine hs_topi 1 (hw_73.trans (by first | rfl | decide +kernel | rfl)) ?_
      refine hs_pi (va_runS (As := [.int 1]) (rest := [.int 511]) ⟨hx, hb, hml, hown, hts⟩ (m_flag1 l D k _ ) (va_cwS 1 hts gX8_fits_X8_flag rfl rfl rfl (by decide +kernel) ⟨Nat.le_of_ble_eq_true rfl, Nat.le_of_ble_eq_true rfl⟩) (hs_preS hK hN (hs_subP (w := []) hP [] rfl) (hD.sub (ws' := []) [] (by decide) rfl)) rfl rfl hl.1 rfl (lv_room (Nat.le_of_ble_eq_true rfl)) dX8_fits_38 ⟨Nat.le_of_ble_eq_true rfl, Nat.le_of_ble_eq_true rfl⟩) hP hD hS hA (fun r_75 u_77 H locs hw_76 hP hS => ?_)
      refine hs_topi 1 (hw_76.trans (by first | rfl | decide +kernel | rfl)) ?_
      refine lv_iload_n hx hb dX8_fits_41 rfl (lv_at hl 0 rfl) ?_
      refine lv_ishl hx hb dX8_fits_42 ?_
      refine hs_topi 512 (by first | rfl | decide +kernel) ?_
      refine lv_ior hx hb dX8_fits_43 ?_
      refine hs_topi 1023 (by first | rfl | decide +kernel) ?_
      refine lv_istore_n (lv' := [(2, .int 1023), (3, .int 9), (0, .ref mo), (1, .int 0)]) hx hb dX8_fits_44 rfl hl (by decide) rfl (fun ls hl => ?_)
      refine lv_iinc (v := 10) (lv' := [(3, .int 10), (2, .int 1023), (0, .ref mo), (1, .int 0)]) hx hb dX8_fits_45 hl (k := 1) rfl (by decide) (by decide) rfl (fun ls hl => ?_)
      refine lv_goto (tgt := 18) hx hb dX8_fits_48 (by decide) ?_
      refine lv_iload_n hx hb dX8_fits_18 rfl (lv_at hl 0 rfl) ?_
      refine lv_bipush (v := 9) hx hb dX8_fits_19 (by decide) ?_
      refine lv_icmp_gt (tgt := 51) hx hb dX8_fits_21 (by decide) (fun c_78 => ?_) (fun c_78 => absurd c_78 (by decide))
      refine lv_iload_n hx hb dX8_fits_51 rfl (lv_at hl 1 rfl) ?_
      exact hs_iret hx hb hr hlocks hK hP hD hS () [] rfl (by decide) dX8_fits_52 (by first | rfl | decide | (simp only [hsb_0, hsb_1] at c_4 c_8 c_15 c_22 c_29 c_36 c_43 c_50 c_57 c_64 c_71 c_78; simp [A_fits, c_4, c_8, c_15, c_22, c_29, c_36, c_43, c_50, c_57, c_64, c_71, c_78]; done) | (simp [A_fits, c_4, c_8, c_15, c_22, c_29, c_36, c_43, c_50, c_57, c_64, c_71, c_78]; done))
    · refine lv_iconst (v := 0) hx hb dX8_fits_10 (by decide) ?_
      refine lv_istore_n (lv' := [(2, .int 0), (0, .ref mo), (1, .int 1)]) hx hb dX8_fits_11 rfl hl (by decide) rfl (fun ls hl => ?_)
      refine lv_aload_n hx hb dX8_fits_12 rfl (lv_at hl 1 rfl) ?_
      refine hs_cv (va_runV (As := []) (rest := []) ⟨hx, hb, hml, hown, hts⟩ (m_starts l D k _ mo mo_st mo_at mo_isKept 0 2 mo_draft 0 2 0 (-4) mo_tape 0 0 0 0 0 0 0 mo_row 0 0 0 0 mo_before 0 0 0 mo_lanes mo_sizes mo_cells 0 mo_had) (cwV 0 hts gX8_fits_X8_starts rfl rfl rfl (by decide +kernel) ⟨Nat.le_of_ble_eq_true rfl, Nat.le_of_ble_eq_true rfl⟩) (hs_preV hK hN (hs_subP (w := [(mo, .inr (7, [.ref mo_st, .ref mo_at, .ref mo_isKept, .int 0, .int 2, .ref mo_draft, .int 0, .int 2, .int 0, .int (-4), .ref mo_tape, .int 0, .int 0, .int 0, .int 0, .int 0, .int 0, .int 0, .ref mo_row, .int 0, .int 0, .int 0, .int 0, .ref mo_before, .long 0, .long 0, .long 0, .ref mo_lanes, .ref mo_sizes, .ref mo_cells, .int 0, .ref mo_had])), (mo_st, .inl (k 0, 132, .inl (hst))), (mo_at, .inl (k 0, 44, .inl (hsz)))]) hP [0, 1, 2] rfl) (hD.sub (ws' := [(mo, .inr (7, [.ref mo_st, .ref mo_at, .ref mo_isKept, .int 0, .int 2, .ref mo_draft, .int 0, .int 2, .int 0, .int (-4), .ref mo_tape, .int 0, .int 0, .int 0, .int 0, .int 0, .int 0, .int 0, .ref mo_row, .int 0, .int 0, .int 0, .int 0, .ref mo_before, .long 0, .long 0, .long 0, .ref mo_lanes, .ref mo_sizes, .ref mo_cells, .int 0, .ref mo_had])), (mo_st, .inl (k 0, 132, .inl (hst))), (mo_at, .inl (k 0, 44, .inl (hsz)))]) [0, 1, 2] (by decide) rfl) (ci := 7) (q0 := 0) rfl rfl) rfl rfl hl.1 rfl (lv_room (Nat.le_of_ble_eq_true rfl)) dX8_fits_13 ⟨Nat.le_of_ble_eq_true rfl, Nat.le_of_ble_eq_true rfl⟩) hP hD hS hA [0, 1, 2] [] [] rfl rfl (by decide) (by decide) [0, 1, 2] (fun u_81 => [(mo, .inr (7, [.ref mo_st, .ref mo_at, .ref mo_isKept, .int 0, .int 2, .ref mo_draft, .int 0, .int 2, .int 0, .int (-4), .ref mo_tape, .int 0, .int 0, .int 0, .int 0, .int 0, .int 0, .int 0, .ref mo_row, .int 0, .int 0, .int 0, .int 0, .ref mo_before, .long 0, .long 0, .long 0, .ref mo_lanes, .ref mo_sizes, .ref mo_cells, .int 0, .ref mo_had])), (mo_st, .inl (k 0, 132, .inl (hst))), (mo_at, .inl (k 0, 44, .inl (hst)))]) (fun _ => rfl) (by decide) (fun u_81 H locs hw_80 hP hD hS => ?_)
      have hP : va_P D vwCl [(mo, .inr (7, [.ref mo_st, .ref mo_at, .ref mo_isKept, .int 0, .int 2, .ref mo_draft, .int 0, .int 2, .int 0, .int (-4), .ref mo_tape, .int 0, .int 0, .int 0, .int 0, .int 0, .int 0, .int 0, .ref mo_row, .int 0, .int 0, .int 0, .int 0, .ref mo_before, .long 0, .long 0, .long 0, .ref mo_lanes, .ref mo_sizes, .ref mo_cells, .int 0, .ref mo_had])), (mo_st, .inl (k 0, 132, .inl (hst))), (mo_at, .inl (k 0, 44, .inl (hst)))] H := hP
      have hD : va_D A [(mo, .inr (7, [.ref mo_st, .ref mo_at, .ref mo_isKept, .int 0, .int 2, .ref mo_draft, .int 0, .int 2, .int 0, .int (-4), .ref mo_tape, .int 0, .int 0, .int 0, .int 0, .int 0, .int 0, .int 0, .ref mo_row, .int 0, .int 0, .int 0, .int 0, .ref mo_before, .long 0, .long 0, .long 0, .ref mo_lanes, .ref mo_sizes, .ref mo_cells, .int 0, .ref mo_had])), (mo_st, .inl (k 0, 132, .inl (hst))), (mo_at, .inl (k 0, 44, .inl (hst)))] := hD
      refine lv_iconst (v := 0) hx hb dX8_fits_16 (by decide) ?_
      refine lv_istore_n (lv' := [(3, .int 0), (2, .int 0), (0, .ref mo), (1, .int 1)]) hx hb dX8_fits_17 rfl hl (by decide) rfl (fun ls hl => ?_)
      refine lv_iload_n hx hb dX8_fits_18 rfl (lv_at hl 0 rfl) ?_
      refine lv_bipush (v := 9) hx hb dX8_fits_19 (by decide) ?_
      refine lv_icmp_gt (tgt := 51) hx hb dX8_fits_21 (by decide) (fun c_82 => absurd c_82 (by decide)) (fun c_82 => ?_)
      refine lv_aload_n hx hb dX8_fits_24 rfl (lv_at hl 2 rfl) ?_
      refine va_get (D := D) (ci := 7) (v := .ref mo_at) (C := RX8) (T := TX8) (N := 32) hx hb hts hiX8 hown hK hP 0 rfl rfl 1 (by decide) fl13 (fun _ h9 => h9) rfl dX8_fits_25 ?_
      refine lv_iconst (v := 1) hx hb dX8_fits_28 (by decide) ?_
      refine lv_iload_n hx hb dX8_fits_29 rfl (lv_at hl 3 rfl) ?_
      refine lv_iadd hx hb dX8_fits_30 ?_
      refine hs_topi 2 (by first | rfl | decide +kernel) ?_
      refine lv_iload_n hx hb dX8_fits_31 rfl (lv_at hl 0 rfl) ?_
      refine va_iast hx hb hK hP hD hS 2 0 rfl rfl (hs_in (by decide)) dX8_fits_32 (fun H locs hP hD hS => ?_)
      have hP : va_P D vwCl [(mo, .inr (7, [.ref mo_st, .ref mo_at, .ref mo_isKept, .int 0, .int 2, .ref mo_draft, .int 0, .int 2, .int 0, .int (-4), .ref mo_tape, .int 0, .int 0, .int 0, .int 0, .int 0, .int 0, .int 0, .ref mo_row, .int 0, .int 0, .int 0, .int 0, .ref mo_before, .long 0, .long 0, .long 0, .ref mo_lanes, .ref mo_sizes, .ref mo_cells, .int 0, .ref mo_had])), (mo_st, .inl (k 0, 132, .inl (hst))), (mo_at, .inl (k 0, 44, .inl (upd hst 2 0)))] H := hP
      have hD : va_D A [(mo, .inr (7, [.ref mo_st, .ref mo_at, .ref mo_isKept, .int 0, .int 2, .ref mo_draft, .int 0, .int 2, .int 0, .int (-4), .ref mo_tape, .int 0, .int 0, .int 0, .int 0, .int 0, .int 0, .int 0, .ref mo_row, .int 0, .int 0, .int 0, .int 0, .ref mo_before, .long 0, .long 0, .long 0, .ref mo_lanes, .ref mo_sizes, .ref mo_cells, .int 0, .ref mo_had])), (mo_st, .inl (k 0, 132, .inl (hst))), (mo_at, .inl (k 0, 44, .inl (upd hst 2 0)))] := hD
      refine lv_iload_n hx hb dX8_fits_33 rfl (lv_at hl 1 rfl) ?_
      refine lv_aload_n hx hb dX8_fits_34 rfl (lv_at hl 2 rfl) ?_
      refine hs_ci (va_runV (As := []) (rest := [.int 0]) ⟨hx, hb, hml, hown, hts⟩ (m_isSo0 l D k _ mo mo_st mo_at mo_isKept 0 2 mo_draft 0 2 0 (-4) mo_tape 0 0 0 0 0 0 0 mo_row 0 0 0 0 mo_before 0 0 0 mo_lanes mo_sizes mo_cells 0 mo_had (upd hst 2 0) rfl) (cwV 0 hts gX8_fits_X8_isSo rfl rfl rfl (by decide +kernel) ⟨Nat.le_of_ble_eq_true rfl, Nat.le_of_ble_eq_true rfl⟩) (hs_preV hK hN (hs_subP (w := [(mo, .inr (7, [.ref mo_st, .ref mo_at, .ref mo_isKept, .int 0, .int 2, .ref mo_draft, .int 0, .int 2, .int 0, .int (-4), .ref mo_tape, .int 0, .int 0, .int 0, .int 0, .int 0, .int 0, .int 0, .ref mo_row, .int 0, .int 0, .int 0, .int 0, .ref mo_before, .long 0, .long 0, .long 0, .ref mo_lanes, .ref mo_sizes, .ref mo_cells, .int 0, .ref mo_had])), (mo_at, .inl (k 0, 44, .inl (upd hst 2 0)))]) hP [0, 2] rfl) (hD.sub (ws' := [(mo, .inr (7, [.ref mo_st, .ref mo_at, .ref mo_isKept, .int 0, .int 2, .ref mo_draft, .int 0, .int 2, .int 0, .int (-4), .ref mo_tape, .int 0, .int 0, .int 0, .int 0, .int 0, .int 0, .int 0, .ref mo_row, .int 0, .int 0, .int 0, .int 0, .ref mo_before, .long 0, .long 0, .long 0, .ref mo_lanes, .ref mo_sizes, .ref mo_cells, .int 0, .ref mo_had])), (mo_at, .inl (k 0, 44, .inl (upd hst 2 0)))]) [0, 2] (by decide) rfl) (ci := 7) (q0 := 0) rfl rfl) rfl rfl hl.1 rfl (lv_room (Nat.le_of_ble_eq_true rfl)) dX8_fits_35 ⟨Nat.le_of_ble_eq_true rfl, Nat.le_of_ble_eq_true rfl⟩) hP hD hS hA [0, 2] [1] [(mo_st, .inl (k 0, 132, .inl (hst)))] rfl rfl (by decide) (by decide) [1, 0, 2] (fun u_85 => [(mo, .inr (7, [.ref mo_st, .ref mo_at, .ref mo_isKept, .int 0, .int 2, .ref mo_draft, .int 0, .int 2, .int 0, .int (-4), .ref mo_tape, .int 0, .int 0, .int 0, .int 0, .int 0, .int 0, .int 0, .ref mo_row, .int 0, .int 0, .int 0, .int 0, .ref mo_before, .long 0, .long 0, .long 0, .ref mo_lanes, .ref mo_sizes, .ref mo_cells, .int 0, .ref mo_had])), (mo_st, .inl (k 0, 132, .inl (hst))), (mo_at, .inl (k 0, 44, .inl (upd hst 2 0)))]) (fun _ => rfl) (by decide) (fun r_83 u_85 H locs hw_84 hP hD hS => ?_)
      have hP : va_P D vwCl [(mo, .inr (7, [.ref mo_st, .ref mo_at, .ref mo_isKept, .int 0, .int 2, .ref mo_draft, .int 0, .int 2, .int 0, .int (-4), .ref mo_tape, .int 0, .int 0, .int 0, .int 0, .int 0, .int 0, .int 0, .ref mo_row, .int 0, .int 0, .int 0, .int 0, .ref mo_before, .long 0, .long 0, .long 0, .ref mo_lanes, .ref mo_sizes, .ref mo_cells, .int 0, .ref mo_had])), (mo_st, .inl (k 0, 132, .inl (hst))), (mo_at, .inl (k 0, 44, .inl (upd hst 2 0)))] H := hP
      have hD : va_D A [(mo, .inr (7, [.ref mo_st, .ref mo_at, .ref mo_isKept, .int 0, .int 2, .ref mo_draft, .int 0, .int 2, .int 0, .int (-4), .ref mo_tape, .int 0, .int 0, .int 0, .int 0, .int 0, .int 0, .int 0, .ref mo_row, .int 0, .int 0, .int 0, .int 0, .ref mo_before, .long 0, .long 0, .long 0, .ref mo_lanes, .ref mo_sizes, .ref mo_cells, .int 0, .ref mo_had])), (mo_st, .inl (k 0, 132, .inl (hst))), (mo_at, .inl (k 0, 44, .inl (upd hst 2 0)))] := hD
      refine hs_topi 1 (hw_84.trans (by first | rfl | decide +kernel | rfl)) ?_
      refine hs_pi (va_runS (As := [.int 1]) (rest := [.int 0]) ⟨hx, hb, hml, hown, hts⟩ (m_flag1 l D k _ ) (va_cwS 1 hts gX8_fits_X8_flag rfl rfl rfl (by decide +kernel) ⟨Nat.le_of_ble_eq_true rfl, Nat.le_of_ble_eq_true rfl⟩) (hs_preS hK hN (hs_subP (w := []) hP [] rfl) (hD.sub (ws' := []) [] (by decide) rfl)) rfl rfl hl.1 rfl (lv_room (Nat.le_of_ble_eq_true rfl)) dX8_fits_38 ⟨Nat.le_of_ble_eq_true rfl, Nat.le_of_ble_eq_true rfl⟩) hP hD hS hA (fun r_86 u_88 H locs hw_87 hP hS => ?_)
      refine hs_topi 1 (hw_87.trans (by first | rfl | decide +kernel | rfl)) ?_
      refine lv_iload_n hx hb dX8_fits_41 rfl (lv_at hl 0 rfl) ?_
      refine lv_ishl hx hb dX8_fits_42 ?_
      refine hs_topi 1 (by first | rfl | decide +kernel) ?_
      refine lv_ior hx hb dX8_fits_43 ?_
      refine hs_topi 1 (by first | rfl | decide +kernel) ?_
      refine lv_istore_n (lv' := [(2, .int 1), (3, .int 0), (0, .ref mo), (1, .int 1)]) hx hb dX8_fits_44 rfl hl (by decide) rfl (fun ls hl => ?_)
      refine lv_iinc (v := 1) (lv' := [(3, .int 1), (2, .int 1), (0, .ref mo), (1, .int 1)]) hx hb dX8_fits_45 hl (k := 1) rfl (by decide) (by decide) rfl (fun ls hl => ?_)
      refine lv_goto (tgt := 18) hx hb dX8_fits_48 (by decide) ?_
      refine lv_iload_n hx hb dX8_fits_18 rfl (lv_at hl 0 rfl) ?_
      refine lv_bipush (v := 9) hx hb dX8_fits_19 (by decide) ?_
      refine lv_icmp_gt (tgt := 51) hx hb dX8_fits_21 (by decide) (fun c_89 => absurd c_89 (by decide)) (fun c_89 => ?_)
      refine lv_aload_n hx hb dX8_fits_24 rfl (lv_at hl 2 rfl) ?_
      refine va_get (D := D) (ci := 7) (v := .ref mo_at) (C := RX8) (T := TX8) (N := 32) hx hb hts hiX8 hown hK hP 0 rfl rfl 1 (by decide) fl13 (fun _ h9 => h9) rfl dX8_fits_25 ?_
      refine lv_iconst (v := 1) hx hb dX8_fits_28 (by decide) ?_
      refine lv_iload_n hx hb dX8_fits_29 rfl (lv_at hl 3 rfl) ?_
      refine lv_iadd hx hb dX8_fits_30 ?_
      refine hs_topi 2 (by first | rfl | decide +kernel) ?_
      refine lv_iload_n hx hb dX8_fits_31 rfl (lv_at hl 0 rfl) ?_
      refine va_iast hx hb hK hP hD hS 2 0 rfl rfl (hs_in (by decide)) dX8_fits_32 (fun H locs hP hD hS => ?_)
      have hP : va_P D vwCl [(mo, .inr (7, [.ref mo_st, .ref mo_at, .ref mo_isKept, .int 0, .int 2, .ref mo_draft, .int 0, .int 2, .int 0, .int (-4), .ref mo_tape, .int 0, .int 0, .int 0, .int 0, .int 0, .int 0, .int 0, .ref mo_row, .int 0, .int 0, .int 0, .int 0, .ref mo_before, .long 0, .long 0, .long 0, .ref mo_lanes, .ref mo_sizes, .ref mo_cells, .int 0, .ref mo_had])), (mo_st, .inl (k 0, 132, .inl (hst))), (mo_at, .inl (k 0, 44, .inl (upd (upd hst 2 0) 2 1)))] H := hP
      have hD : va_D A [(mo, .inr (7, [.ref mo_st, .ref mo_at, .ref mo_isKept, .int 0, .int 2, .ref mo_draft, .int 0, .int 2, .int 0, .int (-4), .ref mo_tape, .int 0, .int 0, .int 0, .int 0, .int 0, .int 0, .int 0, .ref mo_row, .int 0, .int 0, .int 0, .int 0, .ref mo_before, .long 0, .long 0, .long 0, .ref mo_lanes, .ref mo_sizes, .ref mo_cells, .int 0, .ref mo_had])), (mo_st, .inl (k 0, 132, .inl (hst))), (mo_at, .inl (k 0, 44, .inl (upd (upd hst 2 0) 2 1)))] := hD
      refine lv_iload_n hx hb dX8_fits_33 rfl (lv_at hl 1 rfl) ?_
      refine lv_aload_n hx hb dX8_fits_34 rfl (lv_at hl 2 rfl) ?_
      refine hs_ci (va_runV (As := []) (rest := [.int 1]) ⟨hx, hb, hml, hown, hts⟩ (m_isSo0 l D k _ mo mo_st mo_at mo_isKept 0 2 mo_draft 0 2 0 (-4) mo_tape 0 0 0 0 0 0 0 mo_row 0 0 0 0 mo_before 0 0 0 mo_lanes mo_sizes mo_cells 0 mo_had (upd (upd hst 2 0) 2 1) rfl) (cwV 0 hts gX8_fits_X8_isSo rfl rfl rfl (by decide +kernel) ⟨Nat.le_of_ble_eq_true rfl, Nat.le_of_ble_eq_true rfl⟩) (hs_preV hK hN (hs_subP (w := [(mo, .inr (7, [.ref mo_st, .ref mo_at, .ref mo_isKept, .int 0, .int 2, .ref mo_draft, .int 0, .int 2, .int 0, .int (-4), .ref mo_tape, .int 0, .int 0, .int 0, .int 0, .int 0, .int 0, .int 0, .ref mo_row, .int 0, .int 0, .int 0, .int 0, .ref mo_before, .long 0, .long 0, .long 0, .ref mo_lanes, .ref mo_sizes, .ref mo_cells, .int 0, .ref mo_had])), (mo_at, .inl (k 0, 44, .inl (upd (upd hst 2 0) 2 1)))]) hP [0, 2] rfl) (hD.sub (ws' := [(mo, .inr (7, [.ref mo_st, .ref mo_at, .ref mo_isKept, .int 0, .int 2, .ref mo_draft, .int 0, .int 2, .int 0, .int (-4), .ref mo_tape, .int 0, .int 0, .int 0, .int 0, .int 0, .int 0, .int 0, .ref mo_row, .int 0, .int 0, .int 0, .int 0, .ref mo_before, .long 0, .long 0, .long 0, .ref mo_lanes, .ref mo_sizes, .ref mo_cells, .int 0, .ref mo_had])), (mo_at, .inl (k 0, 44, .inl (upd (upd hst 2 0) 2 1)))]) [0, 2] (by decide) rfl) (ci := 7) (q0 := 0) rfl rfl) rfl rfl hl.1 rfl (lv_room (Nat.le_of_ble_eq_true rfl)) dX8_fits_35 ⟨Nat.le_of_ble_eq_true rfl, Nat.le_of_ble_eq_true rfl⟩) hP hD hS hA [0, 2] [1] [(mo_st, .inl (k 0, 132, .inl (hst)))] rfl rfl (by decide) (by decide) [1, 0, 2] (fun u_92 => [(mo, .inr (7, [.ref mo_st, .ref mo_at, .ref mo_isKept, .int 0, .int 2, .ref mo_draft, .int 0, .int 2, .int 0, .int (-4), .ref mo_tape, .int 0, .int 0, .int 0, .int 0, .int 0, .int 0, .int 0, .ref mo_row, .int 0, .int 0, .int 0, .int 0, .ref mo_before, .long 0, .long 0, .long 0, .ref mo_lanes, .ref mo_sizes, .ref mo_cells, .int 0, .ref mo_had])), (mo_st, .inl (k 0, 132, .inl (hst))), (mo_at, .inl (k 0, 44, .inl (upd (upd hst 2 0) 2 1)))]) (fun _ => rfl) (by decide) (fun r_90 u_92 H locs hw_91 hP hD hS => ?_)
      have hP : va_P D vwCl [(mo, .inr (7, [.ref mo_st, .ref mo_at, .ref mo_isKept, .int 0, .int 2, .ref mo_draft, .int 0, .int 2, .int 0, .int (-4), .ref mo_tape, .int 0, .int 0, .int 0, .int 0, .int 0, .int 0, .int 0, .ref mo_row, .int 0, .int 0, .int 0, .int 0, .ref mo_before, .long 0, .long 0, .long 0, .ref mo_lanes, .ref mo_sizes, .ref mo_cells, .int 0, .ref mo_had])), (mo_st, .inl (k 0, 132, .inl (hst))), (mo_at, .inl (k 0, 44, .inl (upd (upd hst 2 0) 2 1)))] H := hP
      have hD : va_D A [(mo, .inr (7, [.ref mo_st, .ref mo_at, .ref mo_isKept, .int 0, .int 2, .ref mo_draft, .int 0, .int 2, .int 0, .int (-4), .ref mo_tape, .int 0, .int 0, .int 0, .int 0, .int 0, .int 0, .int 0, .ref mo_row, .int 0, .int 0, .int 0, .int 0, .ref mo_before, .long 0, .long 0, .long 0, .ref mo_lanes, .ref mo_sizes, .ref mo_cells, .int 0, .ref mo_had])), (mo_st, .inl (k 0, 132, .inl (hst))), (mo_at, .inl (k 0, 44, .inl (upd (upd hst 2 0) 2 1)))] := hD
      refine hs_topi 1 (hw_91.trans (by first | rfl | decide +kernel | rfl)) ?_
      refine hs_pi (va_runS (As := [.int 1]) (rest := [.int 1]) ⟨hx, hb, hml, hown, hts⟩ (m_flag1 l D k _ ) (va_cwS 1 hts gX8_fits_X8_flag rfl rfl rfl (by decide +kernel) ⟨Nat.le_of_ble_eq_true rfl, Nat.le_of_ble_eq_true rfl⟩) (hs_preS hK hN (hs_subP (w := []) hP [] rfl) (hD.sub (ws' := []) [] (by decide) rfl)) rfl rfl hl.1 rfl (lv_room (Nat.le_of_ble_eq_true rfl)) dX8_fits_38 ⟨Nat.le_of_ble_eq_true rfl, Nat.le_of_ble_eq_true rfl⟩) hP hD hS hA (fun r_93 u_95 H locs hw_94 hP hS => ?_)
      refine hs_topi 1 (hw_94.trans (by first | rfl | decide +kernel | rfl)) ?_
      refine lv_iload_n hx hb dX8_fits_41 rfl (lv_at hl 0 rfl) ?_
      refine lv_ishl hx hb dX8_fits_42 ?_
      refine hs_topi 2 (by first | rfl | decide +kernel) ?_
      refine lv_ior hx hb dX8_fits_43 ?_
      refine hs_topi 3 (by first | rfl | decide +kernel) ?_
      refine lv_istore_n (lv' := [(2, .int 3), (3, .int 1), (0, .ref mo), (1, .int 1)]) hx hb dX8_fits_44 rfl hl (by decide) rfl (fun ls hl => ?_)
      refine lv_iinc (v := 2) (lv' := [(3, .int 2), (2, .int 3), (0, .ref mo), (1, .int 1)]) hx hb dX8_fits_45 hl (k := 1) rfl (by decide) (by decide) rfl (fun ls hl => ?_)
      refine lv_goto (tgt := 18) hx hb dX8_fits_48 (by decide) ?_
      refine lv_iload_n hx hb dX8_fits_18 rfl (lv_at hl 0 rfl) ?_
      refine lv_bipush (v := 9) hx hb dX8_fits_19 (by decide) ?_
      refine lv_icmp_gt (tgt := 51) hx hb dX8_fits_21 (by decide) (fun c_96 => absurd c_96 (by decide)) (fun c_96 => ?_)
      refine lv_aload_n hx hb dX8_fits_24 rfl (lv_at hl 2 rfl) ?_
      refine va_get (D := D) (ci := 7) (v := .ref mo_at) (C := RX8) (T := TX8) (N := 32) hx hb hts hiX8 hown hK hP 0 rfl rfl 1 (by decide) fl13 (fun _ h9 => h9) rfl dX8_fits_25 ?_
      refine lv_iconst (v := 1) hx hb dX8_fits_28 (by decide) ?_
      refine lv_iload_n hx hb dX8_fits_29 rfl (lv_at hl 3 rfl) ?_
      refine lv_iadd hx hb dX8_fits_30 ?_
      refine hs_topi 2 (by first | rfl | decide +kernel) ?_
      refine lv_iload_n hx hb dX8_fits_31 rfl (lv_at hl 0 rfl) ?_
      refine va_iast hx hb hK hP hD hS 2 0 rfl rfl (hs_in (by decide)) dX8_fits_32 (fun H locs hP hD hS => ?_)
      have hP : va_P D vwCl [(mo, .inr (7, [.ref mo_st, .ref mo_at, .ref mo_isKept, .int 0, .int 2, .ref mo_draft, .int 0, .int 2, .int 0, .int (-4), .ref mo_tape, .int 0, .int 0, .int 0, .int 0, .int 0, .int 0, .int 0, .ref mo_row, .int 0, .int 0, .int 0, .int 0, .ref mo_before, .long 0, .long 0, .long 0, .ref mo_lanes, .ref mo_sizes, .ref mo_cells, .int 0, .ref mo_had])), (mo_st, .inl (k 0, 132, .inl (hst))), (mo_at, .inl (k 0, 44, .inl (upd (upd (upd hst 2 0) 2 1) 2 2)))] H := hP
      have hD : va_D A [(mo, .inr (7, [.ref mo_st, .ref mo_at, .ref mo_isKept, .int 0, .int 2, .ref mo_draft, .int 0, .int 2, .int 0, .int (-4), .ref mo_tape, .int 0, .int 0, .int 0, .int 0, .int 0, .int 0, .int 0, .ref mo_row, .int 0, .int 0, .int 0, .int 0, .ref mo_before, .long 0, .long 0, .long 0, .ref mo_lanes, .ref mo_sizes, .ref mo_cells, .int 0, .ref mo_had])), (mo_st, .inl (k 0, 132, .inl (hst))), (mo_at, .inl (k 0, 44, .inl (upd (upd (upd hst 2 0) 2 1) 2 2)))] := hD
      refine lv_iload_n hx hb dX8_fits_33 rfl (lv_at hl 1 rfl) ?_
      refine lv_aload_n hx hb dX8_fits_34 rfl (lv_at hl 2 rfl) ?_
      refine hs_ci (va_runV (As := []) (rest := [.int 3]) ⟨hx, hb, hml, hown, hts⟩ (m_isSo0 l D k _ mo mo_st mo_at mo_isKept 0 2 mo_draft 0 2 0 (-4) mo_tape 0 0 0 0 0 0 0 mo_row 0 0 0 0 mo_before 0 0 0 mo_lanes mo_sizes mo_cells 0 mo_had (upd (upd (upd hst 2 0) 2 1) 2 2) rfl) (cwV 0 hts gX8_fits_X8_isSo rfl rfl rfl (by decide +kernel) ⟨Nat.le_of_ble_eq_true rfl, Nat.le_of_ble_eq_true rfl⟩) (hs_preV hK hN (hs_subP (w := [(mo, .inr (7, [.ref mo_st, .ref mo_at, .ref mo_isKept, .int 0, .int 2, .ref mo_draft, .int 0, .int 2, .int 0, .int (-4), .ref mo_tape, .int 0, .int 0, .int 0, .int 0, .int 0, .int 0, .int 0, .ref mo_row, .int 0, .int 0, .int 0, .int 0, .ref mo_before, .long 0, .long 0, .long 0, .ref mo_lanes, .ref mo_sizes, .ref mo_cells, .int 0, .ref mo_had])), (mo_at, .inl (k 0, 44, .inl (upd (upd (upd hst 2 0) 2 1) 2 2)))]) hP [0, 2] rfl) (hD.sub (ws' := [(mo, .inr (7, [.ref mo_st, .ref mo_at, .ref mo_isKept, .int 0, .int 2, .ref mo_draft, .int 0, .int 2, .int 0, .int (-4), .ref mo_tape, .int 0, .int 0, .int 0, .int 0, .int 0, .int 0, .int 0, .ref mo_row, .int 0, .int 0, .int 0, .int 0, .ref mo_before, .long 0, .long 0, .long 0, .ref mo_lanes, .ref mo_sizes, .ref mo_cells, .int 0, .ref mo_had])), (mo_at, .inl (k 0, 44, .inl (upd (upd (upd hst 2 0) 2 1) 2 2)))]) [0, 2] (by decide) rfl) (ci := 7) (q0 := 0) rfl rfl) rfl rfl hl.1 rfl (lv_room (Nat.le_of_ble_eq_true rfl)) dX8_fits_35 ⟨Nat.le_of_ble_eq_true rfl, Nat.le_of_ble_eq_true rfl⟩) hP hD hS hA [0, 2] [1] [(mo_st, .inl (k 0, 132, .inl (hst)))] rfl rfl (by decide) (by decide) [1, 0, 2] (fun u_99 => [(mo, .inr (7, [.ref mo_st, .ref mo_at, .ref mo_isKept, .int 0, .int 2, .ref mo_draft, .int 0, .int 2, .int 0, .int (-4), .ref mo_tape, .int 0, .int 0, .int 0, .int 0, .int 0, .int 0, .int 0, .ref mo_row, .int 0, .int 0, .int 0, .int 0, .ref mo_before, .long 0, .long 0, .long 0, .ref mo_lanes, .ref mo_sizes, .ref mo_cells, .int 0, .ref mo_had])), (mo_st, .inl (k 0, 132, .inl (hst))), (mo_at, .inl (k 0, 44, .inl (upd (upd (upd hst 2 0) 2 1) 2 2)))]) (fun _ => rfl) (by decide) (fun r_97 u_99 H locs hw_98 hP hD hS => ?_)
      have hP : va_P D vwCl [(mo, .inr (7, [.ref mo_st, .ref mo_at, .ref mo_isKept, .int 0, .int 2, .ref mo_draft, .int 0, .int 2, .int 0, .int (-4), .ref mo_tape, .int 0, .int 0, .int 0, .int 0, .int 0, .int 0, .int 0, .ref mo_row, .int 0, .int 0, .int 0, .int 0, .ref mo_before, .long 0, .long 0, .long 0, .ref mo_lanes, .ref mo_sizes, .ref mo_cells, .int 0, .ref mo_had])), (mo_st, .inl (k 0, 132, .inl (hst))), (mo_at, .inl (k 0, 44, .inl (upd (upd (upd hst 2 0) 2 1) 2 2)))] H := hP
      have hD : va_D A [(mo, .inr (7, [.ref mo_st, .ref mo_at, .ref mo_isKept, .int 0, .int 2, .ref mo_draft, .int 0, .int 2, .int 0, .int (-4), .ref mo_tape, .int 0, .int 0, .int 0, .int 0, .int 0, .int 0, .int 0, .ref mo_row, .int 0, .int 0, .int 0, .int 0, .ref mo_before, .long 0, .long 0, .long 0, .ref mo_lanes, .ref mo_sizes, .ref mo_cells, .int 0, .ref mo_had])), (mo_st, .inl (k 0, 132, .inl (hst))), (mo_at, .inl (k 0, 44, .inl (upd (upd (upd hst 2 0) 2 1) 2 2)))] := hD
      refine hs_topi 1 (hw_98.trans (by first | rfl | decide +kernel | rfl)) ?_
      refine hs_pi (va_runS (As := [.int 1]) (rest := [.int 3]) ⟨hx, hb, hml, hown, hts⟩ (m_flag1 l D k _ ) (va_cwS 1 hts gX8_fits_X8_flag rfl rfl rfl (by decide +kernel) ⟨Nat.le_of_ble_eq_true rfl, Nat.le_of_ble_eq_true rfl⟩) (hs_preS hK hN (hs_subP (w := []) hP [] rfl) (hD.sub (ws' := []) [] (by decide) rfl)) rfl rfl hl.1 rfl (lv_room (Nat.le_of_ble_eq_true rfl)) dX8_fits_38 ⟨Nat.le_of_ble_eq_true rfl, Nat.le_of_ble_eq_true rfl⟩) hP hD hS hA (fun r_100 u_102 H locs hw_101 hP hS => ?_)
      refine hs_topi 1 (hw_101.trans (by first | rfl | decide +kernel | rfl)) ?_
      refine lv_iload_n hx hb dX8_fits_41 rfl (lv_at hl 0 rfl) ?_
      refine lv_ishl hx hb dX8_fits_42 ?_
      refine hs_topi 4 (by first | rfl | decide +kernel) ?_
      refine lv_ior hx hb dX8_fits_43 ?_
      refine hs_topi 7 (by first | rfl | decide +kernel) ?_
      refine lv_istore_n (lv' := [(2, .int 7), (3, .int 2), (0, .ref mo), (1, .int 1)]) hx hb dX8_fits_44 rfl hl (by decide) rfl (fun ls hl => ?_)
      refine lv_iinc (v := 3) (lv' := [(3, .int 3), (2, .int 7), (0, .ref mo), (1, .int 1)]) hx hb dX8_fits_45 hl (k := 1) rfl (by decide) (by decide) rfl (fun ls hl => ?_)
      refine lv_goto (tgt := 18) hx hb dX8_fits_48 (by decide) ?_
      refine lv_iload_n hx hb dX8_fits_18 rfl (lv_at hl 0 rfl) ?_
      refine lv_bipush (v := 9) hx hb dX8_fits_19 (by decide) ?_
      refine lv_icmp_gt (tgt := 51) hx hb dX8_fits_21 (by decide) (fun c_103 => absurd c_103 (by decide)) (fun c_103 => ?_)
      refine lv_aload_n hx hb dX8_fits_24 rfl (lv_at hl 2 rfl) ?_
      refine va_get (D := D) (ci := 7) (v := .ref mo_at) (C := RX8) (T := TX8) (N := 32) hx hb hts hiX8 hown hK hP 0 rfl rfl 1 (by decide) fl13 (fun _ h9 => h9) rfl dX8_fits_25 ?_
      refine lv_iconst (v := 1) hx hb dX8_fits_28 (by decide) ?_
      refine lv_iload_n hx hb dX8_fits_29 rfl (lv_at hl 3 rfl) ?_
      refine lv_iadd hx hb dX8_fits_30 ?_
      refine hs_topi 2 (by first | rfl | decide +kernel) ?_
      refine lv_iload_n hx hb dX8_fits_31 rfl (lv_at hl 0 rfl) ?_
      refine va_iast hx hb hK hP hD hS 2 0 rfl rfl (hs_in (by decide)) dX8_fits_32 (fun H locs hP hD hS => ?_)
      have hP : va_P D vwCl [(mo, .inr (7, [.ref mo_st, .ref mo_at, .ref mo_isKept, .int 0, .int 2, .ref mo_draft, .int 0, .int 2, .int 0, .int (-4), .ref mo_tape, .int 0, .int 0, .int 0, .int 0, .int 0, .int 0, .int 0, .ref mo_row, .int 0, .int 0, .int 0, .int 0, .ref mo_before, .long 0, .long 0, .long 0, .ref mo_lanes, .ref mo_sizes, .ref mo_cells, .int 0, .ref mo_had])), (mo_st, .inl (k 0, 132, .inl (hst))), (mo_at, .inl (k 0, 44, .inl (upd (upd (upd (upd hst 2 0) 2 1) 2 2) 2 3)))] H := hP
      have hD : va_D A [(mo, .inr (7, [.ref mo_st, .ref mo_at, .ref mo_isKept, .int 0, .int 2, .ref mo_draft, .int 0, .int 2, .int 0, .int (-4), .ref mo_tape, .int 0, .int 0, .int 0, .int 0, .int 0, .int 0, .int 0, .ref mo_row, .int 0, .int 0, .int 0, .int 0, .ref mo_before, .long 0, .long 0, .long 0, .ref mo_lanes, .ref mo_sizes, .ref mo_cells, .int 0, .ref mo_had])), (mo_st, .inl (k 0, 132, .inl (hst))), (mo_at, .inl (k 0, 44, .inl (upd (upd (upd (upd hst 2 0) 2 1) 2 2) 2 3)))] := hD
      refine lv_iload_n hx hb dX8_fits_33 rfl (lv_at hl 1 rfl) ?_
      refine lv_aload_n hx hb dX8_fits_34 rfl (lv_at hl 2 rfl) ?_
      refine hs_ci (va_runV (As := []) (rest := [.int 7]) ⟨hx, hb, hml, hown, hts⟩ (m_isSo0 l D k _ mo mo_st mo_at mo_isKept 0 2 mo_draft 0 2 0 (-4) mo_tape 0 0 0 0 0 0 0 mo_row 0 0 0 0 mo_before 0 0 0 mo_lanes mo_sizes mo_cells 0 mo_had (upd (upd (upd (upd hst 2 0) 2 1) 2 2) 2 3) rfl) (cwV 0 hts gX8_fits_X8_isSo rfl rfl rfl (by decide +kernel) ⟨Nat.le_of_ble_eq_true rfl, Nat.le_of_ble_eq_true rfl⟩) (hs_preV hK hN (hs_subP (w := [(mo, .inr (7, [.ref mo_st, .ref mo_at, .ref mo_isKept, .int 0, .int 2, .ref mo_draft, .int 0, .int 2, .int 0, .int (-4), .ref mo_tape, .int 0, .int 0, .int 0, .int 0, .int 0, .int 0, .int 0, .ref mo_row, .int 0, .int 0, .int 0, .int 0, .ref mo_before, .long 0, .long 0, .long 0, .ref mo_lanes, .ref mo_sizes, .ref mo_cells, .int 0, .ref mo_had])), (mo_at, .inl (k 0, 44, .inl (upd (upd (upd (upd hst 2 0) 2 1) 2 2) 2 3)))]) hP [0, 2] rfl) (hD.sub (ws' := [(mo, .inr (7, [.ref mo_st, .ref mo_at, .ref mo_isKept, .int 0, .int 2, .ref mo_draft, .int 0, .int 2, .int 0, .int (-4), .ref mo_tape, .int 0, .int 0, .int 0, .int 0, .int 0, .int 0, .int 0, .ref mo_row, .int 0, .int 0, .int 0, .int 0, .ref mo_before, .long 0, .long 0, .long 0, .ref mo_lanes, .ref mo_sizes, .ref mo_cells, .int 0, .ref mo_had])), (mo_at, .inl (k 0, 44, .inl (upd (upd (upd (upd hst 2 0) 2 1) 2 2) 2 3)))]) [0, 2] (by decide) rfl) (ci := 7) (q0 := 0) rfl rfl) rfl rfl hl.1 rfl (lv_room (Nat.le_of_ble_eq_true rfl)) dX8_fits_35 ⟨Nat.le_of_ble_eq_true rfl, Nat.le_of_ble_eq_true rfl⟩) hP hD hS hA [0, 2] [1] [(mo_st, .inl (k 0, 132, .inl (hst)))] rfl rfl (by decide) (by decide) [1, 0, 2] (fun u_106 => [(mo, .inr (7, [.ref mo_st, .ref mo_at, .ref mo_isKept, .int 0, .int 2, .ref mo_draft, .int 0, .int 2, .int 0, .int (-4), .ref mo_tape, .int 0, .int 0, .int 0, .int 0, .int 0, .int 0, .int 0, .ref mo_row, .int 0, .int 0, .int 0, .int 0, .ref mo_before, .long 0, .long 0, .long 0, .ref mo_lanes, .ref mo_sizes, .ref mo_cells, .int 0, .ref mo_had])), (mo_st, .inl (k 0, 132, .inl (hst))), (mo_at, .inl (k 0, 44, .inl (upd (upd (upd (upd hst 2 0) 2 1) 2 2) 2 3)))]) (fun _ => rfl) (by decide) (fun r_104 u_106 H locs hw_105 hP hD hS => ?_)
      have hP : va_P D vwCl [(mo, .inr (7, [.ref mo_st, .ref mo_at, .ref mo_isKept, .int 0, .int 2, .ref mo_draft, .int 0, .int 2, .int 0, .int (-4), .ref mo_tape, .int 0, .int 0, .int 0, .int 0, .int 0, .int 0, .int 0, .ref mo_row, .int 0, .int 0, .int 0, .int 0, .ref mo_before, .long 0, .long 0, .long 0, .ref mo_lanes, .ref mo_sizes, .ref mo_cells, .int 0, .ref mo_had])), (mo_st, .inl (k 0, 132, .inl (hst))), (mo_at, .inl (k 0, 44, .inl (upd (upd (upd (upd hst 2 0) 2 1) 2 2) 2 3)))] H := hP
      have hD : va_D A [(mo, .inr (7, [.ref mo_st, .ref mo_at, .ref mo_isKept, .int 0, .int 2, .ref mo_draft, .int 0, .int 2, .int 0, .int (-4), .ref mo_tape, .int 0, .int 0, .int 0, .int 0, .int 0, .int 0, .int 0, .ref mo_row, .int 0, .int 0, .int 0, .int 0, .ref mo_before, .long 0, .long 0, .long 0, .ref mo_lanes, .ref mo_sizes, .ref mo_cells, .int 0, .ref mo_had])), (mo_st, .inl (k 0, 132, .inl (hst))), (mo_at, .inl (k 0, 44, .inl (upd (upd (upd (upd hst 2 0) 2 1) 2 2) 2 3)))] := hD
      refine hs_topi 1 (hw_105.trans (by first | rfl | decide +kernel | rfl)) ?_
      refine hs_pi (va_runS (As := [.int 1]) (rest := [.int 7]) ⟨hx, hb, hml, hown, hts⟩ (m_flag1 l D k _ ) (va_cwS 1 hts gX8_fits_X8_flag rfl rfl rfl (by decide +kernel) ⟨Nat.le_of_ble_eq_true rfl, Nat.le_of_ble_eq_true rfl⟩) (hs_preS hK hN (hs_subP (w := []) hP [] rfl) (hD.sub (ws' := []) [] (by decide) rfl)) rfl rfl hl.1 rfl (lv_room (Nat.le_of_ble_eq_true rfl)) dX8_fits_38 ⟨Nat.le_of_ble_eq_true rfl, Nat.le_of_ble_eq_true rfl⟩) hP hD hS hA (fun r_107 u_109 H locs hw_108 hP hS => ?_)
      refine hs_topi 1 (hw_108.trans (by first | rfl | decide +kernel | rfl)) ?_
      refine lv_iload_n hx hb dX8_fits_41 rfl (lv_at hl 0 rfl) ?_
      refine lv_ishl hx hb dX8_fits_42 ?_
      refine hs_topi 8 (by first | rfl | decide +kernel) ?_
      refine lv_ior hx hb dX8_fits_43 ?_
      refine hs_topi 15 (by first | rfl | decide +kernel) ?_
      refine lv_istore_n (lv' := [(2, .int 15), (3, .int 3), (0, .ref mo), (1, .int 1)]) hx hb dX8_fits_44 rfl hl (by decide) rfl (fun ls hl => ?_)
      refine lv_iinc (v := 4) (lv' := [(3, .int 4), (2, .int 15), (0, .ref mo), (1, .int 1)]) hx hb dX8_fits_45 hl (k := 1) rfl (by decide) (by decide) rfl (fun ls hl => ?_)
      refine lv_goto (tgt := 18) hx hb dX8_fits_48 (by decide) ?_
      refine lv_iload_n hx hb dX8_fits_18 rfl (lv_at hl 0 rfl) ?_
      refine lv_bipush (v := 9) hx hb dX8_fits_19 (by decide) ?_
      refine lv_icmp_gt (tgt := 51) hx hb dX8_fits_21 (by decide) (fun c_110 => absurd c_110 (by decide)) (fun c_110 => ?_)
      refine lv_aload_n hx hb dX8_fits_24 rfl (lv_at hl 2 rfl) ?_
      refine va_get (D := D) (ci := 7) (v := .ref mo_at) (C := RX8) (T := TX8) (N := 32) hx hb hts hiX8 hown hK hP 0 rfl rfl 1 (by decide) fl13 (fun _ h9 => h9) rfl dX8_fits_25 ?_
      refine lv_iconst (v := 1) hx hb dX8_fits_28 (by decide) ?_
      refine lv_iload_n hx hb dX8_fits_29 rfl (lv_at hl 3 rfl) ?_
      refine lv_iadd hx hb dX8_fits_30 ?_
      refine hs_topi 2 (by first | rfl | decide +kernel) ?_
      refine lv_iload_n hx hb dX8_fits_31 rfl (lv_at hl 0 rfl) ?_
      refine va_iast hx hb hK hP hD hS 2 0 rfl rfl (hs_in (by decide)) dX8_fits_32 (fun H locs hP hD hS => ?_)
      have hP : va_P D vwCl [(mo, .inr (7, [.ref mo_st, .ref mo_at, .ref mo_isKept, .int 0, .int 2, .ref mo_draft, .int 0, .int 2, .int 0, .int (-4), .ref mo_tape, .int 0, .int 0, .int 0, .int 0, .int 0, .int 0, .int 0, .ref mo_row, .int 0, .int 0, .int 0, .int 0, .ref mo_before, .long 0, .long 0, .long 0, .ref mo_lanes, .ref mo_sizes, .ref mo_cells, .int 0, .ref mo_had])), (mo_st, .inl (k 0, 132, .inl (hst))), (mo_at, .inl (k 0, 44, .inl (upd (upd (upd (upd (upd hst 2 0) 2 1) 2 2) 2 3) 2 4)))] H := hP
      have hD : va_D A [(mo, .inr (7, [.ref mo_st, .ref mo_at, .ref mo_isKept, .int 0, .int 2, .ref mo_draft, .int 0, .int 2, .int 0, .int (-4), .ref mo_tape, .int 0, .int 0, .int 0, .int 0, .int 0, .int 0, .int 0, .ref mo_row, .int 0, .int 0, .int 0, .int 0, .ref mo_before, .long 0, .long 0, .long 0, .ref mo_lanes, .ref mo_sizes, .ref mo_cells, .int 0, .ref mo_had])), (mo_st, .inl (k 0, 132, .inl (hst))), (mo_at, .inl (k 0, 44, .inl (upd (upd (upd (upd (upd hst 2 0) 2 1) 2 2) 2 3) 2 4)))] := hD
      refine lv_iload_n hx hb dX8_fits_33 rfl (lv_at hl 1 rfl) ?_
      refine lv_aload_n hx hb dX8_fits_34 rfl (lv_at hl 2 rfl) ?_
      refine hs_ci (va_runV (As := []) (rest := [.int 15]) ⟨hx, hb, hml, hown, hts⟩ (m_isSo0 l D k _ mo mo_st mo_at mo_isKept 0 2 mo_draft 0 2 0 (-4) mo_tape 0 0 0 0 0 0 0 mo_row 0 0 0 0 mo_before 0 0 0 mo_lanes mo_sizes mo_cells 0 mo_had (upd (upd (upd (upd (upd hst 2 0) 2 1) 2 2) 2 3) 2 4) rfl) (cwV 0 hts gX8_fits_X8_isSo rfl rfl rfl (by decide +kernel) ⟨Nat.le_of_ble_eq_true rfl, Nat.le_of_ble_eq_true rfl⟩) (hs_preV hK hN (hs_subP (w := [(mo, .inr (7, [.ref mo_st, .ref mo_at, .ref mo_isKept, .int 0, .int 2, .ref mo_draft, .int 0, .int 2, .int 0, .int (-4), .ref mo_tape, .int 0, .int 0, .int 0, .int 0, .int 0, .int 0, .int 0, .ref mo_row, .int 0, .int 0, .int 0, .int 0, .ref mo_before, .long 0, .long 0, .long 0, .ref mo_lanes, .ref mo_sizes, .ref mo_cells, .int 0, .ref mo_had])), (mo_at, .inl (k 0, 44, .inl (upd (upd (upd (upd (upd hst 2 0) 2 1) 2 2) 2 3) 2 4)))]) hP [0, 2] rfl) (hD.sub (ws' := [(mo, .inr (7, [.ref mo_st, .ref mo_at, .ref mo_isKept, .int 0, .int 2, .ref mo_draft, .int 0, .int 2, .int 0, .int (-4), .ref mo_tape, .int 0, .int 0, .int 0, .int 0, .int 0, .int 0, .int 0, .ref mo_row, .int 0, .int 0, .int 0, .int 0, .ref mo_before, .long 0, .long 0, .long 0, .ref mo_lanes, .ref mo_sizes, .ref mo_cells, .int 0, .ref mo_had])), (mo_at, .inl (k 0, 44, .inl (upd (upd (upd (upd (upd hst 2 0) 2 1) 2 2) 2 3) 2 4)))]) [0, 2] (by decide) rfl) (ci := 7) (q0 := 0) rfl rfl) rfl rfl hl.1 rfl (lv_room (Nat.le_of_ble_eq_true rfl)) dX8_fits_35 ⟨Nat.le_of_ble_eq_true rfl, Nat.le_of_ble_eq_true rfl⟩) hP hD hS hA [0, 2] [1] [(mo_st, .inl (k 0, 132, .inl (hst)))] rfl rfl (by decide) (by decide) [1, 0, 2] (fun u_113 => [(mo, .inr (7, [.ref mo_st, .ref mo_at, .ref mo_isKept, .int 0, .int 2, .ref mo_draft, .int 0, .int 2, .int 0, .int (-4), .ref mo_tape, .int 0, .int 0, .int 0, .int 0, .int 0, .int 0, .int 0, .ref mo_row, .int 0, .int 0, .int 0, .int 0, .ref mo_before, .long 0, .long 0, .long 0, .ref mo_lanes, .ref mo_sizes, .ref mo_cells, .int 0, .ref mo_had])), (mo_st, .inl (k 0, 132, .inl (hst))), (mo_at, .inl (k 0, 44, .inl (upd (upd (upd (upd (upd hst 2 0) 2 1) 2 2) 2 3) 2 4)))]) (fun _ => rfl) (by decide) (fun r_111 u_113 H locs hw_112 hP hD hS => ?_)
      have hP : va_P D vwCl [(mo, .inr (7, [.ref mo_st, .ref mo_at, .ref mo_isKept, .int 0, .int 2, .ref mo_draft, .int 0, .int 2, .int 0, .int (-4), .ref mo_tape, .int 0, .int 0, .int 0, .int 0, .int 0, .int 0, .int 0, .ref mo_row, .int 0, .int 0, .int 0, .int 0, .ref mo_before, .long 0, .long 0, .long 0, .ref mo_lanes, .ref mo_sizes, .ref mo_cells, .int 0, .ref mo_had])), (mo_st, .inl (k 0, 132, .inl (hst))), (mo_at, .inl (k 0, 44, .inl (upd (upd (upd (upd (upd hst 2 0) 2 1) 2 2) 2 3) 2 4)))] H := hP
      have hD : va_D A [(mo, .inr (7, [.ref mo_st, .ref mo_at, .ref mo_isKept, .int 0, .int 2, .ref mo_draft, .int 0, .int 2, .int 0, .int (-4), .ref mo_tape, .int 0, .int 0, .int 0, .int 0, .int 0, .int 0, .int 0, .ref mo_row, .int 0, .int 0, .int 0, .int 0, .ref mo_before, .long 0, .long 0, .long 0, .ref mo_lanes, .ref mo_sizes, .ref mo_cells, .int 0, .ref mo_had])), (mo_st, .inl (k 0, 132, .inl (hst))), (mo_at, .inl (k 0, 44, .inl (upd (upd (upd (upd (upd hst 2 0) 2 1) 2 2) 2 3) 2 4)))] := hD
      refine hs_topi 1 (hw_112.trans (by first | rfl | decide +kernel | rfl)) ?_
      refine hs_pi (va_runS (As := [.int 1]) (rest := [.int 15]) ⟨hx, hb, hml, hown, hts⟩ (m_flag1 l D k _ ) (va_cwS 1 hts gX8_fits_X8_flag rfl rfl rfl (by decide +kernel) ⟨Nat.le_of_ble_eq_true rfl, Nat.le_of_ble_eq_true rfl⟩) (hs_preS hK hN (hs_subP (w := []) hP [] rfl) (hD.sub (ws' := []) [] (by decide) rfl)) rfl rfl hl.1 rfl (lv_room (Nat.le_of_ble_eq_true rfl)) dX8_fits_38 ⟨Nat.le_of_ble_eq_true rfl, Nat.le_of_ble_eq_true rfl⟩) hP hD hS hA (fun r_114 u_116 H locs hw_115 hP hS => ?_)
      refine hs_topi 1 (hw_115.trans (by first | rfl | decide +kernel | rfl)) ?_
      refine lv_iload_n hx hb dX8_fits_41 rfl (lv_at hl 0 rfl) ?_
      refine lv_ishl hx hb dX8_fits_42 ?_
      refine hs_topi 16 (by first | rfl | decide +kernel) ?_
      refine lv_ior hx hb dX8_fits_43 ?_
      refine hs_topi 31 (by first | rfl | decide +kernel) ?_
      refine lv_istore_n (lv' := [(2, .int 31), (3, .int 4), (0, .ref mo), (1, .int 1)]) hx hb dX8_fits_44 rfl hl (by decide) rfl (fun ls hl => ?_)
      refine lv_iinc (v := 5) (lv' := [(3, .int 5), (2, .int 31), (0, .ref mo), (1, .int 1)]) hx hb dX8_fits_45 hl (k := 1) rfl (by decide) (by decide) rfl (fun ls hl => ?_)
      refine lv_goto (tgt := 18) hx hb dX8_fits_48 (by decide) ?_
      refine lv_iload_n hx hb dX8_fits_18 rfl (lv_at hl 0 rfl) ?_
      refine lv_bipush (v := 9) hx hb dX8_fits_19 (by decide) ?_
      refine lv_icmp_gt (tgt := 51) hx hb dX8_fits_21 (by decide) (fun c_117 => absurd c_117 (by decide)) (fun c_117 => ?_)
      refine lv_aload_n hx hb dX8_fits_24 rfl (lv_at hl 2 rfl) ?_
      refine va_get (D := D) (ci := 7) (v := .ref mo_at) (C := RX8) (T := TX8) (N := 32) hx hb hts hiX8 hown hK hP 0 rfl rfl 1 (by decide) fl13 (fun _ h9 => h9) rfl dX8_fits_25 ?_
      refine lv_iconst (v := 1) hx hb dX8_fits_28 (by decide) ?_
      refine lv_iload_n hx hb dX8_fits_29 rfl (lv_at hl 3 rfl) ?_
      refine lv_iadd hx hb dX8_fits_30 ?_
      refine hs_topi 2 (by first | rfl | decide +kernel) ?_
      refine lv_iload_n hx hb dX8_fits_31 rfl (lv_at hl 0 rfl) ?_
      refine va_iast hx hb hK hP hD hS 2 0 rfl rfl (hs_in (by decide)) dX8_fits_32 (fun H locs hP hD hS => ?_)
      have hP : va_P D vwCl [(mo, .inr (7, [.ref mo_st, .ref mo_at, .ref mo_isKept, .int 0, .int 2, .ref mo_draft, .int 0, .int 2, .int 0, .int (-4), .ref mo_tape, .int 0, .int 0, .int 0, .int 0, .int 0, .int 0, .int 0, .ref mo_row, .int 0, .int 0, .int 0, .int 0, .ref mo_before, .long 0, .long 0, .long 0, .ref mo_lanes, .ref mo_sizes, .ref mo_cells, .int 0, .ref mo_had])), (mo_st, .inl (k 0, 132, .inl (hst))), (mo_at, .inl (k 0, 44, .inl (upd (upd (upd (upd (upd (upd hst 2 0) 2 1) 2 2) 2 3) 2 4) 2 5)))] H := hP
      have hD : va_D A [(mo, .inr (7, [.ref mo_st, .ref mo_at, .ref mo_isKept, .int 0, .int 2, .ref mo_draft, .int 0, .int 2, .int 0, .int (-4), .ref mo_tape, .int 0, .int 0, .int 0, .int 0, .int 0, .int 0, .int 0, .ref mo_row, .int 0, .int 0, .int 0, .int 0, .ref mo_before, .long 0, .long 0, .long 0, .ref mo_lanes, .ref mo_sizes, .ref mo_cells, .int 0, .ref mo_had])), (mo_st, .inl (k 0, 132, .inl (hst))), (mo_at, .inl (k 0, 44, .inl (upd (upd (upd (upd (upd (upd hst 2 0) 2 1) 2 2) 2 3) 2 4) 2 5)))] := hD
      refine lv_iload_n hx hb dX8_fits_33 rfl (lv_at hl 1 rfl) ?_
      refine lv_aload_n hx hb dX8_fits_34 rfl (lv_at hl 2 rfl) ?_
      refine hs_ci (va_runV (As := []) (rest := [.int 31]) ⟨hx, hb, hml, hown, hts⟩ (m_isSo0 l D k _ mo mo_st mo_at mo_isKept 0 2 mo_draft 0 2 0 (-4) mo_tape 0 0 0 0 0 0 0 mo_row 0 0 0 0 mo_before 0 0 0 mo_lanes mo_sizes mo_cells 0 mo_had (upd (upd (upd (upd (upd (upd hst 2 0) 2 1) 2 2) 2 3) 2 4) 2 5) rfl) (cwV 0 hts gX8_fits_X8_isSo rfl rfl rfl (by decide +kernel) ⟨Nat.le_of_ble_eq_true rfl, Nat.le_of_ble_eq_true rfl⟩) (hs_preV hK hN (hs_subP (w := [(mo, .inr (7, [.ref mo_st, .ref mo_at, .ref mo_isKept, .int 0, .int 2, .ref mo_draft, .int 0, .int 2, .int 0, .int (-4), .ref mo_tape, .int 0, .int 0, .int 0, .int 0, .int 0, .int 0, .int 0, .ref mo_row, .int 0, .int 0, .int 0, .int 0, .ref mo_before, .long 0, .long 0, .long 0, .ref mo_lanes, .ref mo_sizes, .ref mo_cells, .int 0, .ref mo_had])), (mo_at, .inl (k 0, 44, .inl (upd (upd (upd (upd (upd (upd hst 2 0) 2 1) 2 2) 2 3) 2 4) 2 5)))]) hP [0, 2] rfl) (hD.sub (ws' := [(mo, .inr (7, [.ref mo_st, .ref mo_at, .ref mo_isKept, .int 0, .int 2, .ref mo_draft, .int 0, .int 2, .int 0, .int (-4), .ref mo_tape, .int 0, .int 0, .int 0, .int 0, .int 0, .int 0, .int 0, .ref mo_row, .int 0, .int 0, .int 0, .int 0, .ref mo_before, .long 0, .long 0, .long 0, .ref mo_lanes, .ref mo_sizes, .ref mo_cells, .int 0, .ref mo_had])), (mo_at, .inl (k 0, 44, .inl (upd (upd (upd (upd (upd (upd hst 2 0) 2 1) 2 2) 2 3) 2 4) 2 5)))]) [0, 2] (by decide) rfl) (ci := 7) (q0 := 0) rfl rfl) rfl rfl hl.1 rfl (lv_room (Nat.le_of_ble_eq_true rfl)) dX8_fits_35 ⟨Nat.le_of_ble_eq_true rfl, Nat.le_of_ble_eq_true rfl⟩) hP hD hS hA [0, 2] [1] [(mo_st, .inl (k 0, 132, .inl (hst)))] rfl rfl (by decide) (by decide) [1, 0, 2] (fun u_120 => [(mo, .inr (7, [.ref mo_st, .ref mo_at, .ref mo_isKept, .int 0, .int 2, .ref mo_draft, .int 0, .int 2, .int 0, .int (-4), .ref mo_tape, .int 0, .int 0, .int 0, .int 0, .int 0, .int 0, .int 0, .ref mo_row, .int 0, .int 0, .int 0, .int 0, .ref mo_before, .long 0, .long 0, .long 0, .ref mo_lanes, .ref mo_sizes, .ref mo_cells, .int 0, .ref mo_had])), (mo_st, .inl (k 0, 132, .inl (hst))), (mo_at, .inl (k 0, 44, .inl (upd (upd (upd (upd (upd (upd hst 2 0) 2 1) 2 2) 2 3) 2 4) 2 5)))]) (fun _ => rfl) (by decide) (fun r_118 u_120 H locs hw_119 hP hD hS => ?_)
      have hP : va_P D vwCl [(mo, .inr (7, [.ref mo_st, .ref mo_at, .ref mo_isKept, .int 0, .int 2, .ref mo_draft, .int 0, .int 2, .int 0, .int (-4), .ref mo_tape, .int 0, .int 0, .int 0, .int 0, .int 0, .int 0, .int 0, .ref mo_row, .int 0, .int 0, .int 0, .int 0, .ref mo_before, .long 0, .long 0, .long 0, .ref mo_lanes, .ref mo_sizes, .ref mo_cells, .int 0, .ref mo_had])), (mo_st, .inl (k 0, 132, .inl (hst))), (mo_at, .inl (k 0, 44, .inl (upd (upd (upd (upd (upd (upd hst 2 0) 2 1) 2 2) 2 3) 2 4) 2 5)))] H := hP
      have hD : va_D A [(mo, .inr (7, [.ref mo_st, .ref mo_at, .ref mo_isKept, .int 0, .int 2, .ref mo_draft, .int 0, .int 2, .int 0, .int (-4), .ref mo_tape, .int 0, .int 0, .int 0, .int 0, .int 0, .int 0, .int 0, .ref mo_row, .int 0, .int 0, .int 0, .int 0, .ref mo_before, .long 0, .long 0, .long 0, .ref mo_lanes, .ref mo_sizes, .ref mo_cells, .int 0, .ref mo_had])), (mo_st, .inl (k 0, 132, .inl (hst))), (mo_at, .inl (k 0, 44, .inl (upd (upd (upd (upd (upd (upd hst 2 0) 2 1) 2 2) 2 3) 2 4) 2 5)))] := hD
      refine hs_topi 1 (hw_119.trans (by first | rfl | decide +kernel | rfl)) ?_
      refine hs_pi (va_runS (As := [.int 1]) (rest := [.int 31]) ⟨hx, hb, hml, hown, hts⟩ (m_flag1 l D k _ ) (va_cwS 1 hts gX8_fits_X8_flag rfl rfl rfl (by decide +kernel) ⟨Nat.le_of_ble_eq_true rfl, Nat.le_of_ble_eq_true rfl⟩) (hs_preS hK hN (hs_subP (w := []) hP [] rfl) (hD.sub (ws' := []) [] (by decide) rfl)) rfl rfl hl.1 rfl (lv_room (Nat.le_of_ble_eq_true rfl)) dX8_fits_38 ⟨Nat.le_of_ble_eq_true rfl, Nat.le_of_ble_eq_true rfl⟩) hP hD hS hA (fun r_121 u_123 H locs hw_122 hP hS => ?_)
      refine hs_topi 1 (hw_122.trans (by first | rfl | decide +kernel | rfl)) ?_
      refine lv_iload_n hx hb dX8_fits_41 rfl (lv_at hl 0 rfl) ?_
      refine lv_ishl hx hb dX8_fits_42 ?_
      refine hs_topi 32 (by first | rfl | decide +kernel) ?_
      refine lv_ior hx hb dX8_fits_43 ?_
      refine hs_topi 63 (by first | rfl | decide +kernel) ?_
      refine lv_istore_n (lv' := [(2, .int 63), (3, .int 5), (0, .ref mo), (1, .int 1)]) hx hb dX8_fits_44 rfl hl (by decide) rfl (fun ls hl => ?_)
      refine lv_iinc (v := 6) (lv' := [(3, .int 6), (2, .int 63), (0, .ref mo), (1, .int 1)]) hx hb dX8_fits_45 hl (k := 1) rfl (by decide) (by decide) rfl (fun ls hl => ?_)
      refine lv_goto (tgt := 18) hx hb dX8_fits_48 (by decide) ?_
      refine lv_iload_n hx hb dX8_fits_18 rfl (lv_at hl 0 rfl) ?_
      refine lv_bipush (v := 9) hx hb dX8_fits_19 (by decide) ?_
      refine lv_icmp_gt (tgt := 51) hx hb dX8_fits_21 (by decide) (fun c_124 => absurd c_124 (by decide)) (fun c_124 => ?_)
      refine lv_aload_n hx hb dX8_fits_24 rfl (lv_at hl 2 rfl) ?_
      refine va_get (D := D) (ci := 7) (v := .ref mo_at) (C := RX8) (T := TX8) (N := 32) hx hb hts hiX8 hown hK hP 0 rfl rfl 1 (by decide) fl13 (fun _ h9 => h9) rfl dX8_fits_25 ?_
      refine lv_iconst (v := 1) hx hb dX8_fits_28 (by decide) ?_
      refine lv_iload_n hx hb dX8_fits_29 rfl (lv_at hl 3 rfl) ?_
      refine lv_iadd hx hb dX8_fits_30 ?_
      refine hs_topi 2 (by first | rfl | decide +kernel) ?_
      refine lv_iload_n hx hb dX8_fits_31 rfl (lv_at hl 0 rfl) ?_
      refine va_iast hx hb hK hP hD hS 2 0 rfl rfl (hs_in (by decide)) dX8_fits_32 (fun H locs hP hD hS => ?_)
      have hP : va_P D vwCl [(mo, .inr (7, [.ref mo_st, .ref mo_at, .ref mo_isKept, .int 0, .int 2, .ref mo_draft, .int 0, .int 2, .int 0, .int (-4), .ref mo_tape, .int 0, .int 0, .int 0, .int 0, .int 0, .int 0, .int 0, .ref mo_row, .int 0, .int 0, .int 0, .int 0, .ref mo_before, .long 0, .long 0, .long 0, .ref mo_lanes, .ref mo_sizes, .ref mo_cells, .int 0, .ref mo_had])), (mo_st, .inl (k 0, 132, .inl (hst))), (mo_at, .inl (k 0, 44, .inl (upd (upd (upd (upd (upd (upd (upd hst 2 0) 2 1) 2 2) 2 3) 2 4) 2 5) 2 6)))] H := hP
      have hD : va_D A [(mo, .inr (7, [.ref mo_st, .ref mo_at, .ref mo_isKept, .int 0, .int 2, .ref mo_draft, .int 0, .int 2, .int 0, .int (-4), .ref mo_tape, .int 0, .int 0, .int 0, .int 0, .int 0, .int 0, .int 0, .ref mo_row, .int 0, .int 0, .int 0, .int 0, .ref mo_before, .long 0, .long 0, .long 0, .ref mo_lanes, .ref mo_sizes, .ref mo_cells, .int 0, .ref mo_had])), (mo_st, .inl (k 0, 132, .inl (hst))), (mo_at, .inl (k 0, 44, .inl (upd (upd (upd (upd (upd (upd (upd hst 2 0) 2 1) 2 2) 2 3) 2 4) 2 5) 2 6)))] := hD
      refine lv_iload_n hx hb dX8_fits_33 rfl (lv_at hl 1 rfl) ?_
      refine lv_aload_n hx hb dX8_fits_34 rfl (lv_at hl 2 rfl) ?_
      refine hs_ci (va_runV (As := []) (rest := [.int 63]) ⟨hx, hb, hml, hown, hts⟩ (m_isSo0 l D k _ mo mo_st mo_at mo_isKept 0 2 mo_draft 0 2 0 (-4) mo_tape 0 0 0 0 0 0 0 mo_row 0 0 0 0 mo_before 0 0 0 mo_lanes mo_sizes mo_cells 0 mo_had (upd (upd (upd (upd (upd (upd (upd hst 2 0) 2 1) 2 2) 2 3) 2 4) 2 5) 2 6) rfl) (cwV 0 hts gX8_fits_X8_isSo rfl rfl rfl (by decide +kernel) ⟨Nat.le_of_ble_eq_true rfl, Nat.le_of_ble_eq_true rfl⟩) (hs_preV hK hN (hs_subP (w := [(mo, .inr (7, [.ref mo_st, .ref mo_at, .ref mo_isKept, .int 0, .int 2, .ref mo_draft, .int 0, .int 2, .int 0, .int (-4), .ref mo_tape, .int 0, .int 0, .int 0, .int 0, .int 0, .int 0, .int 0, .ref mo_row, .int 0, .int 0, .int 0, .int 0, .ref mo_before, .long 0, .long 0, .long 0, .ref mo_lanes, .ref mo_sizes, .ref mo_cells, .int 0, .ref mo_had])), (mo_at, .inl (k 0, 44, .inl (upd (upd (upd (upd (upd (upd (upd hst 2 0) 2 1) 2 2) 2 3) 2 4) 2 5) 2 6)))]) hP [0, 2] rfl) (hD.sub (ws' := [(mo, .inr (7, [.ref mo_st, .ref mo_at, .ref mo_isKept, .int 0, .int 2, .ref mo_draft, .int 0, .int 2, .int 0, .int (-4), .ref mo_tape, .int 0, .int 0, .int 0, .int 0, .int 0, .int 0, .int 0, .ref mo_row, .int 0, .int 0, .int 0, .int 0, .ref mo_before, .long 0, .long 0, .long 0, .ref mo_lanes, .ref mo_sizes, .ref mo_cells, .int 0, .ref mo_had])), (mo_at, .inl (k 0, 44, .inl (upd (upd (upd (upd (upd (upd (upd hst 2 0) 2 1) 2 2) 2 3) 2 4) 2 5) 2 6)))]) [0, 2] (by decide) rfl) (ci := 7) (q0 := 0) rfl rfl) rfl rfl hl.1 rfl (lv_room (Nat.le_of_ble_eq_true rfl)) dX8_fits_35 ⟨Nat.le_of_ble_eq_true rfl, Nat.le_of_ble_eq_true rfl⟩) hP hD hS hA [0, 2] [1] [(mo_st, .inl (k 0, 132, .inl (hst)))] rfl rfl (by decide) (by decide) [1, 0, 2] (fun u_127 => [(mo, .inr (7, [.ref mo_st, .ref mo_at, .ref mo_isKept, .int 0, .int 2, .ref mo_draft, .int 0, .int 2, .int 0, .int (-4), .ref mo_tape, .int 0, .int 0, .int 0, .int 0, .int 0, .int 0, .int 0, .ref mo_row, .int 0, .int 0, .int 0, .int 0, .ref mo_before, .long 0, .long 0, .long 0, .ref mo_lanes, .ref mo_sizes, .ref mo_cells, .int 0, .ref mo_had])), (mo_st, .inl (k 0, 132, .inl (hst))), (mo_at, .inl (k 0, 44, .inl (upd (upd (upd (upd (upd (upd (upd hst 2 0) 2 1) 2 2) 2 3) 2 4) 2 5) 2 6)))]) (fun _ => rfl) (by decide) (fun r_125 u_127 H locs hw_126 hP hD hS => ?_)
      have hP : va_P D vwCl [(mo, .inr (7, [.ref mo_st, .ref mo_at, .ref mo_isKept, .int 0, .int 2, .ref mo_draft, .int 0, .int 2, .int 0, .int (-4), .ref mo_tape, .int 0, .int 0, .int 0, .int 0, .int 0, .int 0, .int 0, .ref mo_row, .int 0, .int 0, .int 0, .int 0, .ref mo_before, .long 0, .long 0, .long 0, .ref mo_lanes, .ref mo_sizes, .ref mo_cells, .int 0, .ref mo_had])), (mo_st, .inl (k 0, 132, .inl (hst))), (mo_at, .inl (k 0, 44, .inl (upd (upd (upd (upd (upd (upd (upd hst 2 0) 2 1) 2 2) 2 3) 2 4) 2 5) 2 6)))] H := hP
      have hD : va_D A [(mo, .inr (7, [.ref mo_st, .ref mo_at, .ref mo_isKept, .int 0, .int 2, .ref mo_draft, .int 0, .int 2, .int 0, .int (-4), .ref mo_tape, .int 0, .int 0, .int 0, .int 0, .int 0, .int 0, .int 0, .ref mo_row, .int 0, .int 0, .int 0, .int 0, .ref mo_before, .long 0, .long 0, .long 0, .ref mo_lanes, .ref mo_sizes, .ref mo_cells, .int 0, .ref mo_had])), (mo_st, .inl (k 0, 132, .inl (hst))), (mo_at, .inl (k 0, 44, .inl (upd (upd (upd (upd (upd (upd (upd hst 2 0) 2 1) 2 2) 2 3) 2 4) 2 5) 2 6)))] := hD
      refine hs_topi 1 (hw_126.trans (by first | rfl | decide +kernel | rfl)) ?_
      refine hs_pi (va_runS (As := [.int 1]) (rest := [.int 63]) ⟨hx, hb, hml, hown, hts⟩ (m_flag1 l D k _ ) (va_cwS 1 hts gX8_fits_X8_flag rfl rfl rfl (by decide +kernel) ⟨Nat.le_of_ble_eq_true rfl, Nat.le_of_ble_eq_true rfl⟩) (hs_preS hK hN (hs_subP (w := []) hP [] rfl) (hD.sub (ws' := []) [] (by decide) rfl)) rfl rfl hl.1 rfl (lv_room (Nat.le_of_ble_eq_true rfl)) dX8_fits_38 ⟨Nat.le_of_ble_eq_true rfl, Nat.le_of_ble_eq_true rfl⟩) hP hD hS hA (fun r_128 u_130 H locs hw_129 hP hS => ?_)
      refine hs_topi 1 (hw_129.trans (by first | rfl | decide +kernel | rfl)) ?_
      refine lv_iload_n hx hb dX8_fits_41 rfl (lv_at hl 0 rfl) ?_
      refine lv_ishl hx hb dX8_fits_42 ?_
      refine hs_topi 64 (by first | rfl | decide +kernel) ?_
      refine lv_ior hx hb dX8_fits_43 ?_
      refine hs_topi 127 (by first | rfl | decide +kernel) ?_
      refine lv_istore_n (lv' := [(2, .int 127), (3, .int 6), (0, .ref mo), (1, .int 1)]) hx hb dX8_fits_44 rfl hl (by decide) rfl (fun ls hl => ?_)
      refine lv_iinc (v := 7) (lv' := [(3, .int 7), (2, .int 127), (0, .ref mo), (1, .int 1)]) hx hb dX8_fits_45 hl (k := 1) rfl (by decide) (by decide) rfl (fun ls hl => ?_)
      refine lv_goto (tgt := 18) hx hb dX8_fits_48 (by decide) ?_
      refine lv_iload_n hx hb dX8_fits_18 rfl (lv_at hl 0 rfl) ?_
      refine lv_bipush (v := 9) hx hb dX8_fits_19 (by decide) ?_
      refine lv_icmp_gt (tgt := 51) hx hb dX8_fits_21 (by decide) (fun c_131 => absurd c_131 (by decide)) (fun c_131 => ?_)
      refine lv_aload_n hx hb dX8_fits_24 rfl (lv_at hl 2 rfl) ?_
      refine va_get (D := D) (ci := 7) (v := .ref mo_at) (C := RX8) (T := TX8) (N := 32) hx hb hts hiX8 hown hK hP 0 rfl rfl 1 (by decide) fl13 (fun _ h9 => h9) rfl dX8_fits_25 ?_
      refine lv_iconst (v := 1) hx hb dX8_fits_28 (by decide) ?_
      refine lv_iload_n hx hb dX8_fits_29 rfl (lv_at hl 3 rfl) ?_
      refine lv_iadd hx hb dX8_fits_30 ?_
      refine hs_topi 2 (by first | rfl | decide +kernel) ?_
      refine lv_iload_n hx hb dX8_fits_31 rfl (lv_at hl 0 rfl) ?_
      refine va_iast hx hb hK hP hD hS 2 0 rfl rfl (hs_in (by decide)) dX8_fits_32 (fun H locs hP hD hS => ?_)
      have hP : va_P D vwCl [(mo, .inr (7, [.ref mo_st, .ref mo_at, .ref mo_isKept, .int 0, .int 2, .ref mo_draft, .int 0, .int 2, .int 0, .int (-4), .ref mo_tape, .int 0, .int 0, .int 0, .int 0, .int 0, .int 0, .int 0, .ref mo_row, .int 0, .int 0, .int 0, .int 0, .ref mo_before, .long 0, .long 0, .long 0, .ref mo_lanes, .ref mo_sizes, .ref mo_cells, .int 0, .ref mo_had])), (mo_st, .inl (k 0, 132, .inl (hst))), (mo_at, .inl (k 0, 44, .inl (upd (upd (upd (upd (upd (upd (upd (upd hst 2 0) 2 1) 2 2) 2 3) 2 4) 2 5) 2 6) 2 7)))] H := hP
      have hD : va_D A [(mo, .inr (7, [.ref mo_st, .ref mo_at, .ref mo_isKept, .int 0, .int 2, .ref mo_draft, .int 0, .int 2, .int 0, .int (-4), .ref mo_tape, .int 0, .int 0, .int 0, .int 0, .int 0, .int 0, .int 0, .ref mo_row, .int 0, .int 0, .int 0, .int 0, .ref mo_before, .long 0, .long 0, .long 0, .ref mo_lanes, .ref mo_sizes, .ref mo_cells, .int 0, .ref mo_had])), (mo_st, .inl (k 0, 132, .inl (hst))), (mo_at, .inl (k 0, 44, .inl (upd (upd (upd (upd (upd (upd (upd (upd hst 2 0) 2 1) 2 2) 2 3) 2 4) 2 5) 2 6) 2 7)))] := hD
      refine lv_iload_n hx hb dX8_fits_33 rfl (lv_at hl 1 rfl) ?_
      refine lv_aload_n hx hb dX8_fits_34 rfl (lv_at hl 2 rfl) ?_
      refine hs_ci (va_runV (As := []) (rest := [.int 127]) ⟨hx, hb, hml, hown, hts⟩ (m_isSo0 l D k _ mo mo_st mo_at mo_isKept 0 2 mo_draft 0 2 0 (-4) mo_tape 0 0 0 0 0 0 0 mo_row 0 0 0 0 mo_before 0 0 0 mo_lanes mo_sizes mo_cells 0 mo_had (upd (upd (upd (upd (upd (upd (upd (upd hst 2 0) 2 1) 2 2) 2 3) 2 4) 2 5) 2 6) 2 7) rfl) (cwV 0 hts gX8_fits_X8_isSo rfl rfl rfl (by decide +kernel) ⟨Nat.le_of_ble_eq_true rfl, Nat.le_of_ble_eq_true rfl⟩) (hs_preV hK hN (hs_subP (w := [(mo, .inr (7, [.ref mo_st, .ref mo_at, .ref mo_isKept, .int 0, .int 2, .ref mo_draft, .int 0, .int 2, .int 0, .int (-4), .ref mo_tape, .int 0, .int 0, .int 0, .int 0, .int 0, .int 0, .int 0, .ref mo_row, .int 0, .int 0, .int 0, .int 0, .ref mo_before, .long 0, .long 0, .long 0, .ref mo_lanes, .ref mo_sizes, .ref mo_cells, .int 0, .ref mo_had])), (mo_at, .inl (k 0, 44, .inl (upd (upd (upd (upd (upd (upd (upd (upd hst 2 0) 2 1) 2 2) 2 3) 2 4) 2 5) 2 6) 2 7)))]) hP [0, 2] rfl) (hD.sub (ws' := [(mo, .inr (7, [.ref mo_st, .ref mo_at, .ref mo_isKept, .int 0, .int 2, .ref mo_draft, .int 0, .int 2, .int 0, .int (-4), .ref mo_tape, .int 0, .int 0, .int 0, .int 0, .int 0, .int 0, .int 0, .ref mo_row, .int 0, .int 0, .int 0, .int 0, .ref mo_before, .long 0, .long 0, .long 0, .ref mo_lanes, .ref mo_sizes, .ref mo_cells, .int 0, .ref mo_had])), (mo_at, .inl (k 0, 44, .inl (upd (upd (upd (upd (upd (upd (upd (upd hst 2 0) 2 1) 2 2) 2 3) 2 4) 2 5) 2 6) 2 7)))]) [0, 2] (by decide) rfl) (ci := 7) (q0 := 0) rfl rfl) rfl rfl hl.1 rfl (lv_room (Nat.le_of_ble_eq_true rfl)) dX8_fits_35 ⟨Nat.le_of_ble_eq_true rfl, Nat.le_of_ble_eq_true rfl⟩) hP hD hS hA [0, 2] [1] [(mo_st, .inl (k 0, 132, .inl (hst)))] rfl rfl (by decide) (by decide) [1, 0, 2] (fun u_134 => [(mo, .inr (7, [.ref mo_st, .ref mo_at, .ref mo_isKept, .int 0, .int 2, .ref mo_draft, .int 0, .int 2, .int 0, .int (-4), .ref mo_tape, .int 0, .int 0, .int 0, .int 0, .int 0, .int 0, .int 0, .ref mo_row, .int 0, .int 0, .int 0, .int 0, .ref mo_before, .long 0, .long 0, .long 0, .ref mo_lanes, .ref mo_sizes, .ref mo_cells, .int 0, .ref mo_had])), (mo_st, .inl (k 0, 132, .inl (hst))), (mo_at, .inl (k 0, 44, .inl (upd (upd (upd (upd (upd (upd (upd (upd hst 2 0) 2 1) 2 2) 2 3) 2 4) 2 5) 2 6) 2 7)))]) (fun _ => rfl) (by decide) (fun r_132 u_134 H locs hw_133 hP hD hS => ?_)
      have hP : va_P D vwCl [(mo, .inr (7, [.ref mo_st, .ref mo_at, .ref mo_isKept, .int 0, .int 2, .ref mo_draft, .int 0, .int 2, .int 0, .int (-4), .ref mo_tape, .int 0, .int 0, .int 0, .int 0, .int 0, .int 0, .int 0, .ref mo_row, .int 0, .int 0, .int 0, .int 0, .ref mo_before, .long 0, .long 0, .long 0, .ref mo_lanes, .ref mo_sizes, .ref mo_cells, .int 0, .ref mo_had])), (mo_st, .inl (k 0, 132, .inl (hst))), (mo_at, .inl (k 0, 44, .inl (upd (upd (upd (upd (upd (upd (upd (upd hst 2 0) 2 1) 2 2) 2 3) 2 4) 2 5) 2 6) 2 7)))] H := hP
      have hD : va_D A [(mo, .inr (7, [.ref mo_st, .ref mo_at, .ref mo_isKept, .int 0, .int 2, .ref mo_draft, .int 0, .int 2, .int 0, .int (-4), .ref mo_tape, .int 0, .int 0, .int 0, .int 0, .int 0, .int 0, .int 0, .ref mo_row, .int 0, .int 0, .int 0, .int 0, .ref mo_before, .long 0, .long 0, .long 0, .ref mo_lanes, .ref mo_sizes, .ref mo_cells, .int 0, .ref mo_had])), (mo_st, .inl (k 0, 132, .inl (hst))), (mo_at, .inl (k 0, 44, .inl (upd (upd (upd (upd (upd (upd (upd (upd hst 2 0) 2 1) 2 2) 2 3) 2 4) 2 5) 2 6) 2 7)))] := hD
      refine hs_topi 1 (hw_133.trans (by first | rfl | decide +kernel | rfl)) ?_
      refine hs_pi (va_runS (As := [.int 1]) (rest := [.int 127]) ⟨hx, hb, hml, hown, hts⟩ (m_flag1 l D k _ ) (va_cwS 1 hts gX8_fits_X8_flag rfl rfl rfl (by decide +kernel) ⟨Nat.le_of_ble_eq_true rfl, Nat.le_of_ble_eq_true rfl⟩) (hs_preS hK hN (hs_subP (w := []) hP [] rfl) (hD.sub (ws' := []) [] (by decide) rfl)) rfl rfl hl.1 rfl (lv_room (Nat.le_of_ble_eq_true rfl)) dX8_fits_38 ⟨Nat.le_of_ble_eq_true rfl, Nat.le_of_ble_eq_true rfl⟩) hP hD hS hA (fun r_135 u_137 H locs hw_136 hP hS => ?_)
      refine hs_topi 1 (hw_136.trans (by first | rfl | decide +kernel | rfl)) ?_
      refine lv_iload_n hx hb dX8_fits_41 rfl (lv_at hl 0 rfl) ?_
      refine lv_ishl hx hb dX8_fits_42 ?_
      refine hs_topi 128 (by first | rfl | decide +kernel) ?_
      refine lv_ior hx hb dX8_fits_43 ?_
      refine hs_topi 255 (by first | rfl | decide +kernel) ?_
      refine lv_istore_n (lv' := [(2, .int 255), (3, .int 7), (0, .ref mo), (1, .int 1)]) hx hb dX8_fits_44 rfl hl (by decide) rfl (fun ls hl => ?_)
      refine lv_iinc (v := 8) (lv' := [(3, .int 8), (2, .int 255), (0, .ref mo), (1, .int 1)]) hx hb dX8_fits_45 hl (k := 1) rfl (by decide) (by decide) rfl (fun ls hl => ?_)
      refine lv_goto (tgt := 18) hx hb dX8_fits_48 (by decide) ?_
      refine lv_iload_n hx hb dX8_fits_18 rfl (lv_at hl 0 rfl) ?_
      refine lv_bipush (v := 9) hx hb dX8_fits_19 (by decide) ?_
      refine lv_icmp_gt (tgt := 51) hx hb dX8_fits_21 (by decide) (fun c_138 => absurd c_138 (by decide)) (fun c_138 => ?_)
      refine lv_aload_n hx hb dX8_fits_24 rfl (lv_at hl 2 rfl) ?_
      refine va_get (D := D) (ci := 7) (v := .ref mo_at) (C := RX8) (T := TX8) (N := 32) hx hb hts hiX8 hown hK hP 0 rfl rfl 1 (by decide) fl13 (fun _ h9 => h9) rfl dX8_fits_25 ?_
      refine lv_iconst (v := 1) hx hb dX8_fits_28 (by decide) ?_
      refine lv_iload_n hx hb dX8_fits_29 rfl (lv_at hl 3 rfl) ?_
      refine lv_iadd hx hb dX8_fits_30 ?_
      refine hs_topi 2 (by first | rfl | decide +kernel) ?_
      refine lv_iload_n hx hb dX8_fits_31 rfl (lv_at hl 0 rfl) ?_
      refine va_iast hx hb hK hP hD hS 2 0 rfl rfl (hs_in (by decide)) dX8_fits_32 (fun H locs hP hD hS => ?_)
      have hP : va_P D vwCl [(mo, .inr (7, [.ref mo_st, .ref mo_at, .ref mo_isKept, .int 0, .int 2, .ref mo_draft, .int 0, .int 2, .int 0, .int (-4), .ref mo_tape, .int 0, .int 0, .int 0, .int 0, .int 0, .int 0, .int 0, .ref mo_row, .int 0, .int 0, .int 0, .int 0, .ref mo_before, .long 0, .long 0, .long 0, .ref mo_lanes, .ref mo_sizes, .ref mo_cells, .int 0, .ref mo_had])), (mo_st, .inl (k 0, 132, .inl (hst))), (mo_at, .inl (k 0, 44, .inl (upd (upd (upd (upd (upd (upd (upd (upd (upd hst 2 0) 2 1) 2 2) 2 3) 2 4) 2 5) 2 6) 2 7) 2 8)))] H := hP
      have hD : va_D A [(mo, .inr (7, [.ref mo_st, .ref mo_at, .ref mo_isKept, .int 0, .int 2, .ref mo_draft, .int 0, .int 2, .int 0, .int (-4), .ref mo_tape, .int 0, .int 0, .int 0, .int 0, .int 0, .int 0, .int 0, .ref mo_row, .int 0, .int 0, .int 0, .int 0, .ref mo_before, .long 0, .long 0, .long 0, .ref mo_lanes, .ref mo_sizes, .ref mo_cells, .int 0, .ref mo_had])), (mo_st, .inl (k 0, 132, .inl (hst))), (mo_at, .inl (k 0, 44, .inl (upd (upd (upd (upd (upd (upd (upd (upd (upd hst 2 0) 2 1) 2 2) 2 3) 2 4) 2 5) 2 6) 2 7) 2 8)))] := hD
      refine lv_iload_n hx hb dX8_fits_33 rfl (lv_at hl 1 rfl) ?_
      refine lv_aload_n hx hb dX8_fits_34 rfl (lv_at hl 2 rfl) ?_
      refine hs_ci (va_runV (As := []) (rest := [.int 255]) ⟨hx, hb, hml, hown, hts⟩ (m_isSo0 l D k _ mo mo_st mo_at mo_isKept 0 2 mo_draft 0 2 0 (-4) mo_tape 0 0 0 0 0 0 0 mo_row 0 0 0 0 mo_before 0 0 0 mo_lanes mo_sizes mo_cells 0 mo_had (upd (upd (upd (upd (upd (upd (upd (upd (upd hst 2 0) 2 1) 2 2) 2 3) 2 4) 2 5) 2 6) 2 7) 2 8) rfl) (cwV 0 hts gX8_fits_X8_isSo rfl rfl rfl (by decide +kernel) ⟨Nat.le_of_ble_eq_true rfl, Nat.le_of_ble_eq_true rfl⟩) (hs_preV hK hN (hs_subP (w := [(mo, .inr (7, [.ref mo_st, .ref mo_at, .ref mo_isKept, .int 0, .int 2, .ref mo_draft, .int 0, .int 2, .int 0, .int (-4), .ref mo_tape, .int 0, .int 0, .int 0, .int 0, .int 0, .int 0, .int 0, .ref mo_row, .int 0, .int 0, .int 0, .int 0, .ref mo_before, .long 0, .long 0, .long 0, .ref mo_lanes, .ref mo_sizes, .ref mo_cells, .int 0, .ref mo_had])), (mo_at, .inl (k 0, 44, .inl (upd (upd (upd (upd (upd (upd (upd (upd (upd hst 2 0) 2 1) 2 2) 2 3) 2 4) 2 5) 2 6) 2 7) 2 8)))]) hP [0, 2] rfl) (hD.sub (ws' := [(mo, .inr (7, [.ref mo_st, .ref mo_at, .ref mo_isKept, .int 0, .int 2, .ref mo_draft, .int 0, .int 2, .int 0, .int (-4), .ref mo_tape, .int 0, .int 0, .int 0, .int 0, .int 0, .int 0, .int 0, .ref mo_row, .int 0, .int 0, .int 0, .int 0, .ref mo_before, .long 0, .long 0, .long 0, .ref mo_lanes, .ref mo_sizes, .ref mo_cells, .int 0, .ref mo_had])), (mo_at, .inl (k 0, 44, .inl (upd (upd (upd (upd (upd (upd (upd (upd (upd hst 2 0) 2 1) 2 2) 2 3) 2 4) 2 5) 2 6) 2 7) 2 8)))]) [0, 2] (by decide) rfl) (ci := 7) (q0 := 0) rfl rfl) rfl rfl hl.1 rfl (lv_room (Nat.le_of_ble_eq_true rfl)) dX8_fits_35 ⟨Nat.le_of_ble_eq_true rfl, Nat.le_of_ble_eq_true rfl⟩) hP hD hS hA [0, 2] [1] [(mo_st, .inl (k 0, 132, .inl (hst)))] rfl rfl (by decide) (by decide) [1, 0, 2] (fun u_141 => [(mo, .inr (7, [.ref mo_st, .ref mo_at, .ref mo_isKept, .int 0, .int 2, .ref mo_draft, .int 0, .int 2, .int 0, .int (-4), .ref mo_tape, .int 0, .int 0, .int 0, .int 0, .int 0, .int 0, .int 0, .ref mo_row, .int 0, .int 0, .int 0, .int 0, .ref mo_before, .long 0, .long 0, .long 0, .ref mo_lanes, .ref mo_sizes, .ref mo_cells, .int 0, .ref mo_had])), (mo_st, .inl (k 0, 132, .inl (hst))), (mo_at, .inl (k 0, 44, .inl (upd (upd (upd (upd (upd (upd (upd (upd (upd hst 2 0) 2 1) 2 2) 2 3) 2 4) 2 5) 2 6) 2 7) 2 8)))]) (fun _ => rfl) (by decide) (fun r_139 u_141 H locs hw_140 hP hD hS => ?_)
      have hP : va_P D vwCl [(mo, .inr (7, [.ref mo_st, .ref mo_at, .ref mo_isKept, .int 0, .int 2, .ref mo_draft, .int 0, .int 2, .int 0, .int (-4), .ref mo_tape, .int 0, .int 0, .int 0, .int 0, .int 0, .int 0, .int 0, .ref mo_row, .int 0, .int 0, .int 0, .int 0, .ref mo_before, .long 0, .long 0, .long 0, .ref mo_lanes, .ref mo_sizes, .ref mo_cells, .int 0, .ref mo_had])), (mo_st, .inl (k 0, 132, .inl (hst))), (mo_at, .inl (k 0, 44, .inl (upd (upd (upd (upd (upd (upd (upd (upd (upd hst 2 0) 2 1) 2 2) 2 3) 2 4) 2 5) 2 6) 2 7) 2 8)))] H := hP
      have hD : va_D A [(mo, .inr (7, [.ref mo_st, .ref mo_at, .ref mo_isKept, .int 0, .int 2, .ref mo_draft, .int 0, .int 2, .int 0, .int (-4), .ref mo_tape, .int 0, .int 0, .int 0, .int 0, .int 0, .int 0, .int 0, .ref mo_row, .int 0, .int 0, .int 0, .int 0, .ref mo_before, .long 0, .long 0, .long 0, .ref mo_lanes, .ref mo_sizes, .ref mo_cells, .int 0, .ref mo_had])), (mo_st, .inl (k 0, 132, .inl (hst))), (mo_at, .inl (k 0, 44, .inl (upd (upd (upd (upd (upd (upd (upd (upd (upd hst 2 0) 2 1) 2 2) 2 3) 2 4) 2 5) 2 6) 2 7) 2 8)))] := hD
      refine hs_topi 1 (hw_140.trans (by first | rfl | decide +kernel | rfl)) ?_
      refine hs_pi (va_runS (As := [.int 1]) (rest := [.int 255]) ⟨hx, hb, hml, hown, hts⟩ (m_flag1 l D k _ ) (va_cwS 1 hts gX8_fits_X8_flag rfl rfl rfl (by decide +kernel) ⟨Nat.le_of_ble_eq_true rfl, Nat.le_of_ble_eq_true rfl⟩) (hs_preS hK hN (hs_subP (w := []) hP [] rfl) (hD.sub (ws' := []) [] (by decide) rfl)) rfl rfl hl.1 rfl (lv_room (Nat.le_of_ble_eq_true rfl)) dX8_fits_38 ⟨Nat.le_of_ble_eq_true rfl, Nat.le_of_ble_eq_true rfl⟩) hP hD hS hA (fun r_142 u_144 H locs hw_143 hP hS => ?_)
      refine hs_topi 1 (hw_143.trans (by first | rfl | decide +kernel | rfl)) ?_
      refine lv_iload_n hx hb dX8_fits_41 rfl (lv_at hl 0 rfl) ?_
      refine lv_ishl hx hb dX8_fits_42 ?_
      refine hs_topi 256 (by first | rfl | decide +kernel) ?_
      refine lv_ior hx hb dX8_fits_43 ?_
      refine hs_topi 511 (by first | rfl | decide +kernel) ?_
      refine lv_istore_n (lv' := [(2, .int 511), (3, .int 8), (0, .ref mo), (1, .int 1)]) hx hb dX8_fits_44 rfl hl (by decide) rfl (fun ls hl => ?_)
      refine lv_iinc (v := 9) (lv' := [(3, .int 9), (2, .int 511), (0, .ref mo), (1, .int 1)]) hx hb dX8_fits_45 hl (k := 1) rfl (by decide) (by decide) rfl (fun ls hl => ?_)
      refine lv_goto (tgt := 18) hx hb dX8_fits_48 (by decide) ?_
      refine lv_iload_n hx hb dX8_fits_18 rfl (lv_at hl 0 rfl) ?_
      refine lv_bipush (v := 9) hx hb dX8_fits_19 (by decide) ?_
      refine lv_icmp_gt (tgt := 51) hx hb dX8_fits_21 (by decide) (fun c_145 => absurd c_145 (by decide)) (fun c_145 => ?_)
      refine lv_aload_n hx hb dX8_fits_24 rfl (lv_at hl 2 rfl) ?_
      refine va_get (D := D) (ci := 7) (v := .ref mo_at) (C := RX8) (T := TX8) (N := 32) hx hb hts hiX8 hown hK hP 0 rfl rfl 1 (by decide) fl13 (fun _ h9 => h9) rfl dX8_fits_25 ?_
      refine lv_iconst (v := 1) hx hb dX8_fits_28 (by decide) ?_
      refine lv_iload_n hx hb dX8_fits_29 rfl (lv_at hl 3 rfl) ?_
      refine lv_iadd hx hb dX8_fits_30 ?_
      refine hs_topi 2 (by first | rfl | decide +kernel) ?_
      refine lv_iload_n hx hb dX8_fits_31 rfl (lv_at hl 0 rfl) ?_
      refine va_iast hx hb hK hP hD hS 2 0 rfl rfl (hs_in (by decide)) dX8_fits_32 (fun H locs hP hD hS => ?_)
      have hP : va_P D vwCl [(mo, .inr (7, [.ref mo_st, .ref mo_at, .ref mo_isKept, .int 0, .int 2, .ref mo_draft, .int 0, .int 2, .int 0, .int (-4), .ref mo_tape, .int 0, .int 0, .int 0, .int 0, .int 0, .int 0, .int 0, .ref mo_row, .int 0, .int 0, .int 0, .int 0, .ref mo_before, .long 0, .long 0, .long 0, .ref mo_lanes, .ref mo_sizes, .ref mo_cells, .int 0, .ref mo_had])), (mo_st, .inl (k 0, 132, .inl (hst))), (mo_at, .inl (k 0, 44, .inl (upd (upd (upd (upd (upd (upd (upd (upd (upd (upd hst 2 0) 2 1) 2 2) 2 3) 2 4) 2 5) 2 6) 2 7) 2 8) 2 9)))] H := hP
      have hD : va_D A [(mo, .inr (7, [.ref mo_st, .ref mo_at, .ref mo_isKept, .int 0, .int 2, .ref mo_draft, .int 0, .int 2, .int 0, .int (-4), .ref mo_tape, .int 0, .int 0, .int 0, .int 0, .int 0, .int 0, .int 0, .ref mo_row, .int 0, .int 0, .int 0, .int 0, .ref mo_before, .long 0, .long 0, .long 0, .ref mo_lanes, .ref mo_sizes, .ref mo_cells, .int 0, .ref mo_had])), (mo_st, .inl (k 0, 132, .inl (hst))), (mo_at, .inl (k 0, 44, .inl (upd (upd (upd (upd (upd (upd (upd (upd (upd (upd hst 2 0) 2 1) 2 2) 2 3) 2 4) 2 5) 2 6) 2 7) 2 8) 2 9)))] := hD
      refine lv_iload_n hx hb dX8_fits_33 rfl (lv_at hl 1 rfl) ?_
      refine lv_aload_n hx hb dX8_fits_34 rfl (lv_at hl 2 rfl) ?_
      refine hs_ci (va_runV (As := []) (rest := [.int 511]) ⟨hx, hb, hml, hown, hts⟩ (m_isSo0 l D k _ mo mo_st mo_at mo_isKept 0 2 mo_draft 0 2 0 (-4) mo_tape 0 0 0 0 0 0 0 mo_row 0 0 0 0 mo_before 0 0 0 mo_lanes mo_sizes mo_cells 0 mo_had (upd (upd (upd (upd (upd (upd (upd (upd (upd (upd hst 2 0) 2 1) 2 2) 2 3) 2 4) 2 5) 2 6) 2 7) 2 8) 2 9) rfl) (cwV 0 hts gX8_fits_X8_isSo rfl rfl rfl (by decide +kernel) ⟨Nat.le_of_ble_eq_true rfl, Nat.le_of_ble_eq_true rfl⟩) (hs_preV hK hN (hs_subP (w := [(mo, .inr (7, [.ref mo_st, .ref mo_at, .ref mo_isKept, .int 0, .int 2, .ref mo_draft, .int 0, .int 2, .int 0, .int (-4), .ref mo_tape, .int 0, .int 0, .int 0, .int 0, .int 0, .int 0, .int 0, .ref mo_row, .int 0, .int 0, .int 0, .int 0, .ref mo_before, .long 0, .long 0, .long 0, .ref mo_lanes, .ref mo_sizes, .ref mo_cells, .int 0, .ref mo_had])), (mo_at, .inl (k 0, 44, .inl (upd (upd (upd (upd (upd (upd (upd (upd (upd (upd hst 2 0) 2 1) 2 2) 2 3) 2 4) 2 5) 2 6) 2 7) 2 8) 2 9)))]) hP [0, 2] rfl) (hD.sub (ws' := [(mo, .inr (7, [.ref mo_st, .ref mo_at, .ref mo_isKept, .int 0, .int 2, .ref mo_draft, .int 0, .int 2, .int 0, .int (-4), .ref mo_tape, .int 0, .int 0, .int 0, .int 0, .int 0, .int 0, .int 0, .ref mo_row, .int 0, .int 0, .int 0, .int 0, .ref mo_before, .long 0, .long 0, .long 0, .ref mo_lanes, .ref mo_sizes, .ref mo_cells, .int 0, .ref mo_had])), (mo_at, .inl (k 0, 44, .inl (upd (upd (upd (upd (upd (upd (upd (upd (upd (upd hst 2 0) 2 1) 2 2) 2 3) 2 4) 2 5) 2 6) 2 7) 2 8) 2 9)))]) [0, 2] (by decide) rfl) (ci := 7) (q0 := 0) rfl rfl) rfl rfl hl.1 rfl (lv_room (Nat.le_of_ble_eq_true rfl)) dX8_fits_35 ⟨Nat.le_of_ble_eq_true rfl, Nat.le_of_ble_eq_true rfl⟩) hP hD hS hA [0, 2] [1] [(mo_st, .inl (k 0, 132, .inl (hst)))] rfl rfl (by decide) (by decide) [1, 0, 2] (fun u_148 => [(mo, .inr (7, [.ref mo_st, .ref mo_at, .ref mo_isKept, .int 0, .int 2, .ref mo_draft, .int 0, .int 2, .int 0, .int (-4), .ref mo_tape, .int 0, .int 0, .int 0, .int 0, .int 0, .int 0, .int 0, .ref mo_row, .int 0, .int 0, .int 0, .int 0, .ref mo_before, .long 0, .long 0, .long 0, .ref mo_lanes, .ref mo_sizes, .ref mo_cells, .int 0, .ref mo_had])), (mo_st, .inl (k 0, 132, .inl (hst))), (mo_at, .inl (k 0, 44, .inl (upd (upd (upd (upd (upd (upd (upd (upd (upd (upd hst 2 0) 2 1) 2 2) 2 3) 2 4) 2 5) 2 6) 2 7) 2 8) 2 9)))]) (fun _ => rfl) (by decide) (fun r_146 u_148 H locs hw_147 hP hD hS => ?_)
      have hP : va_P D vwCl [(mo, .inr (7, [.ref mo_st, .ref mo_at, .ref mo_isKept, .int 0, .int 2, .ref mo_draft, .int 0, .int 2, .int 0, .int (-4), .ref mo_tape, .int 0, .int 0, .int 0, .int 0, .int 0, .int 0, .int 0, .ref mo_row, .int 0, .int 0, .int 0, .int 0, .ref mo_before, .long 0, .long 0, .long 0, .ref mo_lanes, .ref mo_sizes, .ref mo_cells, .int 0, .ref mo_had])), (mo_st, .inl (k 0, 132, .inl (hst))), (mo_at, .inl (k 0, 44, .inl (upd (upd (upd (upd (upd (upd (upd (upd (upd (upd hst 2 0) 2 1) 2 2) 2 3) 2 4) 2 5) 2 6) 2 7) 2 8) 2 9)))] H := hP
      have hD : va_D A [(mo, .inr (7, [.ref mo_st, .ref mo_at, .ref mo_isKept, .int 0, .int 2, .ref mo_draft, .int 0, .int 2, .int 0, .int (-4), .ref mo_tape, .int 0, .int 0, .int 0, .int 0, .int 0, .int 0, .int 0, .ref mo_row, .int 0, .int 0, .int 0, .int 0, .ref mo_before, .long 0, .long 0, .long 0, .ref mo_lanes, .ref mo_sizes, .ref mo_cells, .int 0, .ref mo_had])), (mo_st, .inl (k 0, 132, .inl (hst))), (mo_at, .inl (k 0, 44, .inl (upd (upd (upd (upd (upd (upd (upd (upd (upd (upd hst 2 0) 2 1) 2 2) 2 3) 2 4) 2 5) 2 6) 2 7) 2 8) 2 9)))] := hD
      refine hs_topi 1 (hw_147.trans (by first | rfl | decide +kernel | rfl)) ?_
      refine hs_pi (va_runS (As := [.int 1]) (rest := [.int 511]) ⟨hx, hb, hml, hown, hts⟩ (m_flag1 l D k _ ) (va_cwS 1 hts gX8_fits_X8_flag rfl rfl rfl (by decide +kernel) ⟨Nat.le_of_ble_eq_true rfl, Nat.le_of_ble_eq_true rfl⟩) (hs_preS hK hN (hs_subP (w := []) hP [] rfl) (hD.sub (ws' := []) [] (by decide) rfl)) rfl rfl hl.1 rfl (lv_room (Nat.le_of_ble_eq_true rfl)) dX8_fits_38 ⟨Nat.le_of_ble_eq_true rfl, Nat.le_of_ble_eq_true rfl⟩) hP hD hS hA (fun r_149 u_151 H locs hw_150 hP hS => ?_)
      refine hs_topi 1 (hw_150.trans (by first | rfl | decide +kernel | rfl)) ?_
      refine lv_iload_n hx hb dX8_fits_41 rfl (lv_at hl 0 rfl) ?_
      refine lv_ishl hx hb dX8_fits_42 ?_
      refine hs_topi 512 (by first | rfl | decide +kernel) ?_
      refine lv_ior hx hb dX8_fits_43 ?_
      refine hs_topi 1023 (by first | rfl | decide +kernel) ?_
      refine lv_istore_n (lv' := [(2, .int 1023), (3, .int 9), (0, .ref mo), (1, .int 1)]) hx hb dX8_fits_44 rfl hl (by decide) rfl (fun ls hl => ?_)
      refine lv_iinc (v := 10) (lv' := [(3, .int 10), (2, .int 1023), (0, .ref mo), (1, .int 1)]) hx hb dX8_fits_45 hl (k := 1) rfl (by decide) (by decide) rfl (fun ls hl => ?_)
      refine lv_goto (tgt := 18) hx hb dX8_fits_48 (by decide) ?_
      refine lv_iload_n hx hb dX8_fits_18 rfl (lv_at hl 0 rfl) ?_
      refine lv_bipush (v := 9) hx hb dX8_fits_19 (by decide) ?_
      refine lv_icmp_gt (tgt := 51) hx hb dX8_fits_21 (by decide) (fun c_152 => ?_) (fun c_152 => absurd c_152 (by decide))
      refine lv_iload_n hx hb dX8_fits_51 rfl (lv_at hl 1 rfl) ?_
      exact hs_iret hx hb hr hlocks hK hP hD hS () [] rfl (by decide) dX8_fits_52 (by first | rfl | decide | (simp only [hsb_0, hsb_1] at c_4 c_82 c_89 c_96 c_103 c_110 c_117 c_124 c_131 c_138 c_145 c_152; simp [A_fits, c_4, c_82, c_89, c_96, c_103, c_110, c_117, c_124, c_131, c_138, c_145, c_152]; done) | (simp [A_fits, c_4, c_82, c_89, c_96, c_103, c_110, c_117, c_124, c_131, c_138, c_145, c_152]; done))
  · refine lv_iconst (v := (-1)) hx hb dX8_fits_8 (by decide) ?_
    exact hs_iret hx hb hr hlocks hK hP hD hS () [] rfl (by decide) dX8_fits_9 (by first | rfl | decide | (simp only [hsb_0, hsb_1] at c_4; simp [A_fits, c_4]; done) | (simp [A_fits, c_4]; done))

set_option maxHeartbeats 4000000 in
set_option maxRecDepth 100000 in
theorem q_kinds (l : Launch) (D : va_G) (k : Nat → ClassId) (sz : Nat) (mo : Nat) (mo_st : Nat) (mo_at : Nat) (mo_isKept : Nat) (mo_draft : Nat) (mo_tape : Nat) (mo_row : Nat) (mo_before : Nat) (mo_lanes : Nat) (mo_sizes : Nat) (mo_cells : Nat) (mo_had : Nat) (i : Int32)  : MI l yX8_kinds wsX8_kinds ({ frames := 2, cells := 0, slots := 0, locals := 46 }) D k [.ref mo, .int i] [(mo, .inr (7, [.ref mo_st, .ref mo_at, .ref mo_isKept, .int 0, .int 2, .ref mo_draft, .int 0, .int 2, .int 0, .int (-4), .ref mo_tape, .int 0, .int 0, .int 0, .int 0, .int 0, .int 0, .int 0, .ref mo_row, .int 0, .int 0, .int 0, .int 0, .ref mo_before, .long 0, .long 0, .long 0, .ref mo_lanes, .ref mo_sizes, .ref mo_cells, .int 0, .ref mo_had])), (mo_st, .inl (k 0, 132, .inl (hst)))] sz (fun (r : Int32) (u : Unit) => r = A_kinds i) (fun (u : Unit) => []) := by
  refine Met.ofW (cc := cX8_kinds) (maxL := 4) (ret := (some .int)) (by decide) rfl ?_
  intro p e s m args below meth c s₁ B hml hv
  obtain ⟨rfl, hsz, hP, hK, hD0, hN⟩ := hv
  have hx := B.exec
  have hb := B.bytes
  have hr := B.returns
  have hlocks := B.notSynchronized
  have hts := atoms_spec (ws := wsX8_kinds) B.pre
  have hown : s.vm.findClass RX8 = some m.cls := findClass_of_methodNamed B.named
  subst hsz
  have hD := hD0.self (sz := s.heap.size)
  generalize hAe : va_A [(mo, .inr (7, [.ref mo_st, .ref mo_at, .ref mo_isKept, .int 0, .int 2, .ref mo_draft, .int 0, .int 2, .int 0, .int (-4), .ref mo_tape, .int 0, .int 0, .int 0, .int 0, .int 0, .int 0, .int 0, .ref mo_row, .int 0, .int 0, .int 0, .int 0, .ref mo_before, .long 0, .long 0, .long 0, .ref mo_lanes, .ref mo_sizes, .ref mo_cells, .int 0, .ref mo_had])), (mo_st, .inl (k 0, 132, .inl (hst)))] s.heap.size = A at hD ⊢
  have hA : ∀ q : Nat, s.heap.size ≤ q → A q := fun q h => by rw [← hAe]; exact Or.inr h
  have hS : va_S A s.heap s.heap [] := va_S.rf
  have hl := lv_entry ([.ref mo, .int i]) (n := 4) (Nat.le_of_ble_eq_true rfl)
  rw [lg_entry_eq]
  generalize (lg_sl ([.ref mo, .int i]) ++ List.replicate (4 - (lg_sl ([.ref mo, .int i])).length) Slot.unset).toArray = ls at hl ⊢
  have hl : lv_has ls 4 [(0, .ref mo), (1, .int i)] := hl
  have hP : va_P D vwCl [(mo, .inr (7, [.ref mo_st, .ref mo_at, .ref mo_isKept, .int 0, .int 2, .ref mo_draft, .int 0, .int 2, .int 0, .int (-4), .ref mo_tape, .int 0, .int 0, .int 0, .int 0, .int 0, .int 0, .int 0, .ref mo_row, .int 0, .int 0, .int 0, .int 0, .ref mo_before, .long 0, .long 0, .long 0, .ref mo_lanes, .ref mo_sizes, .ref mo_cells, .int 0, .ref mo_had])), (mo_st, .inl (k 0, 132, .inl (hst)))] s.heap := hP
  refine lv_aload_n hx hb dX8_kinds_0 rfl (lv_at hl 0 rfl) ?_
  refine lv_iload_n hx hb dX8_kinds_1 rfl (lv_at hl 1 rfl) ?_
  refine hs_ci (va_runV (As := [.int i]) (rest := []) ⟨hx, hb, hml, hown, hts⟩ (m_isPerson0 l D k _ mo mo_st mo_at mo_isKept mo_draft mo_tape mo_row mo_before mo_lanes mo_sizes mo_cells mo_had i) (cwV 1 hts gX8_kinds_X8_isPerson rfl rfl rfl (by decide +kernel) ⟨Nat.le_of_ble_eq_true rfl, Nat.le_of_ble_eq_true rfl⟩) (hs_preV hK hN (hs_subP (w := [(mo, .inr (7, [.ref mo_st, .ref mo_at, .ref mo_isKept, .int 0, .int 2, .ref mo_draft, .int 0, .int 2, .int 0, .int (-4), .ref mo_tape, .int 0, .int 0, .int 0, .int 0, .int 0, .int 0, .int 0, .ref mo_row, .int 0, .int 0, .int 0, .int 0, .ref mo_before, .long 0, .long 0, .long 0, .ref mo_lanes, .ref mo_sizes, .ref mo_cells, .int 0, .ref mo_had])), (mo_st, .inl (k 0, 132, .inl (hst)))]) hP [0, 1] rfl) (hD.sub (ws' := [(mo, .inr (7, [.ref mo_st, .ref mo_at, .ref mo_isKept, .int 0, .int 2, .ref mo_draft, .int 0, .int 2, .int 0, .int (-4), .ref mo_tape, .int 0, .int 0, .int 0, .int 0, .int 0, .int 0, .int 0, .ref mo_row, .int 0, .int 0, .int 0, .int 0, .ref mo_before, .long 0, .long 0, .long 0, .ref mo_lanes, .ref mo_sizes, .ref mo_cells, .int 0, .ref mo_had])), (mo_st, .inl (k 0, 132, .inl (hst)))]) [0, 1] (by decide) rfl) (ci := 7) (q0 := 0) rfl rfl) rfl rfl hl.1 rfl (lv_room (Nat.le_of_ble_eq_true rfl)) dX8_kinds_2 ⟨Nat.le_of_ble_eq_true rfl, Nat.le_of_ble_eq_true rfl⟩) hP hD hS hA [0, 1] [] [] rfl rfl (by decide) (by decide) [0, 1] (fun u_3 => [(mo, .inr (7, [.ref mo_st, .ref mo_at, .ref mo_isKept, .int 0, .int 2, .ref mo_draft, .int 0, .int 2, .int 0, .int (-4), .ref mo_tape, .int 0, .int 0, .int 0, .int 0, .int 0, .int 0, .int 0, .ref mo_row, .int 0, .int 0, .int 0, .int 0, .ref mo_before, .long 0, .long 0, .long 0, .ref mo_lanes, .ref mo_sizes, .ref mo_cells, .int 0, .ref mo_had])), (mo_st, .inl (k 0, 132, .inl (hst)))]) (fun _ => rfl) (by decide) (fun r_1 u_3 H locs hw_2 hP hD hS => ?_)
  have hP : va_P D vwCl [(mo, .inr (7, [.ref mo_st, .ref mo_at, .ref mo_isKept, .int 0, .int 2, .ref mo_draft, .int 0, .int 2, .int 0, .int (-4), .ref mo_tape, .int 0, .int 0, .int 0, .int 0, .int 0, .int 0, .int 0, .ref mo_row, .int 0, .int 0, .int 0, .int 0, .ref mo_before, .long 0, .long 0, .long 0, .ref mo_lanes, .ref mo_sizes, .ref mo_cells, .int 0, .ref mo_had])), (mo_st, .inl (k 0, 132, .inl (hst)))] H := hP
  have hD : va_D A [(mo, .inr (7, [.ref mo_st, .ref mo_at, .ref mo_isKept, .int 0, .int 2, .ref mo_draft, .int 0, .int 2, .int 0, .int (-4), .ref mo_tape, .int 0, .int 0, .int 0, .int 0, .int 0, .int 0, .int 0, .ref mo_row, .int 0, .int 0, .int 0, .int 0, .ref mo_before, .long 0, .long 0, .long 0, .ref mo_lanes, .ref mo_sizes, .ref mo_cells, .int 0, .ref mo_had])), (mo_st, .inl (k 0, 132, .inl (hst)))] := hD
  refine hs_topi 0 (hw_2.trans (by first | rfl | decide +kernel | rfl)) ?_
  refine lv_if_ne (tgt := 10) hx hb dX8_kinds_5 (by decide) (fun c_4 => absurd c_4 (by decide)) (fun c_4 => ?_)
  refine lv_iconst (v := (-1)) hx hb dX8_kinds_8 (by decide) ?_
  exact hs_iret hx hb hr hlocks hK hP hD hS () [] rfl (by decide) dX8_kinds_9 (by first | rfl | decide | (simp only [hsb_0, hsb_1] at c_4; simp [A_kinds, c_4]; done) | (simp [A_kinds, c_4]; done))

set_option maxHeartbeats 4000000 in
set_option maxRecDepth 100000 in
theorem q_keep (l : Launch) (D : va_G) (k : Nat → ClassId) (sz : Nat) (mo : Nat) (mo_st : Nat) (mo_at : Nat) (mo_isKept : Nat) (mo_draft : Nat) (mo_tape : Nat) (mo_row : Nat) (mo_before : Nat) (mo_lanes : Nat) (mo_sizes : Nat) (mo_cells : Nat) (mo_had : Nat) (i : Int32)  : MI l yX8_keep wsX8_keep ({ frames := 1, cells := 0, slots := 0, locals := 25 }) D k [.ref mo, .int i] [(mo, .inr (7, [.ref mo_st, .ref mo_at, .ref mo_isKept, .int 0, .int 2, .ref mo_draft, .int 0, .int 2, .int 0, .int (-4), .ref mo_tape, .int 0, .int 0, .int 0, .int 0, .int 0, .int 0, .int 0, .ref mo_row, .int 0, .int 0, .int 0, .int 0, .ref mo_before, .long 0, .long 0, .long 0, .ref mo_lanes, .ref mo_sizes, .ref mo_cells, .int 0, .ref mo_had])), (mo_st, .inl (k 0, 132, .inl (hst))), (mo_isKept, .inl (k 2, 2, .inl (hsz)))] sz (fun (r : Int32) (u : Unit) => r = A_keep i) (fun (u : Unit) => []) := by
  refine Met.ofW (cc := cX8_keep) (maxL := 3) (ret := (some .int)) (by decide) rfl ?_
  intro p e s m args below meth c s₁ B hml hv
  obtain ⟨rfl, hsz, hP, hK, hD0, hN⟩ := hv
  have hx := B.exec
  have hb := B.bytes
  have hr := B.returns
  have hlocks := B.notSynchronized
  have hts := atoms_spec (ws := wsX8_keep) B.pre
  have hown : s.vm.findClass RX8 = some m.cls := findClass_of_methodNamed B.named
  have hiX8 : ∀ w ∈ u_ws RX8 TX8 32, w ∈ wsX8_keep := by decide +kernel
  have fl16 := hts (.fieldLink RX8 16 "HalfScalesModel" "isKept" "[Z") (by decide +kernel)
  subst hsz
  have hD := hD0.self (sz := s.heap.size)
  generalize hAe : va_A [(mo, .inr (7, [.ref mo_st, .ref mo_at, .ref mo_isKept, .int 0, .int 2, .ref mo_draft, .int 0, .int 2, .int 0, .int (-4), .ref mo_tape, .int 0, .int 0, .int 0, .int 0, .int 0, .int 0, .int 0, .ref mo_row, .int 0, .int 0, .int 0, .int 0, .ref mo_before, .long 0, .long 0, .long 0, .ref mo_lanes, .ref mo_sizes, .ref mo_cells, .int 0, .ref mo_had])), (mo_st, .inl (k 0, 132, .inl (hst))), (mo_isKept, .inl (k 2, 2, .inl (hsz)))] s.heap.size = A at hD ⊢
  have hA : ∀ q : Nat, s.heap.size ≤ q → A q := fun q h => by rw [← hAe]; exact Or.inr h
  have hS : va_S A s.heap s.heap [] := va_S.rf
  have hl := lv_entry ([.ref mo, .int i]) (n := 3) (Nat.le_of_ble_eq_true rfl)
  rw [lg_entry_eq]
  generalize (lg_sl ([.ref mo, .int i]) ++ List.replicate (3 - (lg_sl ([.ref mo, .int i])).length) Slot.unset).toArray = ls at hl ⊢
  have hl : lv_has ls 3 [(0, .ref mo), (1, .int i)] := hl
  have hP : va_P D vwCl [(mo, .inr (7, [.ref mo_st, .ref mo_at, .ref mo_isKept, .int 0, .int 2, .ref mo_draft, .int 0, .int 2, .int 0, .int (-4), .ref mo_tape, .int 0, .int 0, .int 0, .int 0, .int 0, .int 0, .int 0, .ref mo_row, .int 0, .int 0, .int 0, .int 0, .ref mo_before, .long 0, .long 0, .long 0, .ref mo_lanes, .ref mo_sizes, .ref mo_cells, .int 0, .ref mo_had])), (mo_st, .inl (k 0, 132, .inl (hst))), (mo_isKept, .inl (k 2, 2, .inl (hsz)))] s.heap := hP
  refine lv_iload_n hx hb dX8_keep_0 rfl (lv_at hl 1 rfl) ?_
  refine lv_i2l hx hb dX8_keep_1 rfl ?_
  refine lv_lconst (v := 0) hx hb dX8_keep_2 (by decide) ?_
  refine lv_lconst (v := 1) hx hb dX8_keep_3 (by decide) ?_
  refine hs_pi (va_runS (As := [.long (((i) : Int32).toInt64), .long 0, .long 1]) (rest := []) ⟨hx, hb, hml, hown, hts⟩ (m_in l D k _ i 0 1) (va_cwS 3 hts gX8_keep_X8_in rfl rfl rfl (by decide +kernel) ⟨Nat.le_of_ble_eq_true rfl, Nat.le_of_ble_eq_true rfl⟩) (hs_preS hK hN (hs_subP (w := []) hP [] rfl) (hD.sub (ws' := []) [] (by decide) rfl)) rfl rfl hl.1 rfl (lv_room (Nat.le_of_ble_eq_true rfl)) dX8_keep_4 ⟨Nat.le_of_ble_eq_true rfl, Nat.le_of_ble_eq_true rfl⟩) hP hD hS hA (fun r_1 u_3 H locs hw_2 hP hS => ?_)
  refine hs_topi (hsb (hsin i 0 1)) hw_2 ?_
  refine lv_if_ne (tgt := 12) hx hb dX8_keep_7 (by decide) (fun c_4 => ?_) (fun c_4 => ?_)
  · rcases hs_v01 (hs_nb c_4) with rfl | rfl
    · refine lv_aload_n hx hb dX8_keep_12 rfl (lv_at hl 0 rfl) ?_
      refine va_get (D := D) (ci := 7) (v := .ref mo_isKept) (C := RX8) (T := TX8) (N := 32) hx hb hts hiX8 hown hK hP 0 rfl rfl 2 (by decide) fl16 (fun _ h9 => h9) rfl dX8_keep_13 ?_
      refine lv_iload_n hx hb dX8_keep_16 rfl (lv_at hl 1 rfl) ?_
      refine va_zald hx hb hK hP 2 2 rfl rfl (hs_in (by decide)) dX8_keep_17 ?_
      refine hs_topi 0 (by first | rfl | decide +kernel) ?_
      refine hs_pi (va_runS (As := [.int 0]) (rest := []) ⟨hx, hb, hml, hown, hts⟩ (m_flag0 l D k _ ) (va_cwS 1 hts gX8_keep_X8_flag rfl rfl rfl (by decide +kernel) ⟨Nat.le_of_ble_eq_true rfl, Nat.le_of_ble_eq_true rfl⟩) (hs_preS hK hN (hs_subP (w := []) hP [] rfl) (hD.sub (ws' := []) [] (by decide) rfl)) rfl rfl hl.1 rfl (lv_room (Nat.le_of_ble_eq_true rfl)) dX8_keep_18 ⟨Nat.le_of_ble_eq_true rfl, Nat.le_of_ble_eq_true rfl⟩) hP hD hS hA (fun r_5 u_7 H locs hw_6 hP hS => ?_)
      refine hs_topi 0 (hw_6.trans (by first | rfl | decide +kernel | rfl)) ?_
      refine lv_istore_n (lv' := [(2, .int 0), (0, .ref mo), (1, .int 0)]) hx hb dX8_keep_21 rfl hl (by decide) rfl (fun ls hl => ?_)
      refine lv_aload_n hx hb dX8_keep_22 rfl (lv_at hl 1 rfl) ?_
      refine va_get (D := D) (ci := 7) (v := .ref mo_isKept) (C := RX8) (T := TX8) (N := 32) hx hb hts hiX8 hown hK hP 0 rfl rfl 2 (by decide) fl16 (fun _ h9 => h9) rfl dX8_keep_23 ?_
      refine lv_iload_n hx hb dX8_keep_26 rfl (lv_at hl 2 rfl) ?_
      refine lv_iconst (v := 1) hx hb dX8_keep_27 (by decide) ?_
      refine va_zast hx hb hK hP hD hS 2 2 rfl rfl (hs_in (by decide)) dX8_keep_28 (fun H locs hP hD hS => ?_)
      have hP : va_P D vwCl [(mo, .inr (7, [.ref mo_st, .ref mo_at, .ref mo_isKept, .int 0, .int 2, .ref mo_draft, .int 0, .int 2, .int 0, .int (-4), .ref mo_tape, .int 0, .int 0, .int 0, .int 0, .int 0, .int 0, .int 0, .ref mo_row, .int 0, .int 0, .int 0, .int 0, .ref mo_before, .long 0, .long 0, .long 0, .ref mo_lanes, .ref mo_sizes, .ref mo_cells, .int 0, .ref mo_had])), (mo_st, .inl (k 0, 132, .inl (hst))), (mo_isKept, .inl (k 2, 2, .inl (upd hsz 0 1)))] H := hP
      have hD : va_D A [(mo, .inr (7, [.ref mo_st, .ref mo_at, .ref mo_isKept, .int 0, .int 2, .ref mo_draft, .int 0, .int 2, .int 0, .int (-4), .ref mo_tape, .int 0, .int 0, .int 0, .int 0, .int 0, .int 0, .int 0, .ref mo_row, .int 0, .int 0, .int 0, .int 0, .ref mo_before, .long 0, .long 0, .long 0, .ref mo_lanes, .ref mo_sizes, .ref mo_cells, .int 0, .ref mo_had])), (mo_st, .inl (k 0, 132, .inl (hst))), (mo_isKept, .inl (k 2, 2, .inl (upd hsz 0 1)))] := hD
      refine lv_aload_n hx hb dX8_keep_29 rfl (lv_at hl 1 rfl) ?_
      refine lv_bipush (v := 44) hx hb dX8_keep_30 (by decide) ?_
      refine lv_iload_n hx hb dX8_keep_32 rfl (lv_at hl 2 rfl) ?_
      refine lv_iconst (v := 1) hx hb dX8_keep_33 (by decide) ?_
      refine lv_iadd hx hb dX8_keep_34 ?_
      refine hs_topi 1 (by first | rfl | decide +kernel) ?_
      refine lv_imul hx hb dX8_keep_35 ?_
      refine hs_topi 44 (by first | rfl | decide +kernel) ?_
      refine lv_iconst (v := 0) hx hb dX8_keep_36 (by decide) ?_
      refine hs_cv (va_runV (As := [.int 44, .int 0]) (rest := []) ⟨hx, hb, hml, hown, hts⟩ (m_copies_44 l D k _ mo mo_st mo_at mo_isKept 0 2 mo_draft 0 2 0 (-4) mo_tape 0 0 0 0 0 0 0 mo_row 0 0 0 0 mo_before 0 0 0 mo_lanes mo_sizes mo_cells 0 mo_had hst) (cwV 2 hts gX8_keep_X8_copies rfl rfl rfl (by decide +kernel) ⟨Nat.le_of_ble_eq_true rfl, Nat.le_of_ble_eq_true rfl⟩) (hs_preV hK hN (hs_subP (w := [(mo, .inr (7, [.ref mo_st, .ref mo_at, .ref mo_isKept, .int 0, .int 2, .ref mo_draft, .int 0, .int 2, .int 0, .int (-4), .ref mo_tape, .int 0, .int 0, .int 0, .int 0, .int 0, .int 0, .int 0, .ref mo_row, .int 0, .int 0, .int 0, .int 0, .ref mo_before, .long 0, .long 0, .long 0, .ref mo_lanes, .ref mo_sizes, .ref mo_cells, .int 0, .ref mo_had])), (mo_st, .inl (k 0, 132, .inl (hst)))]) hP [0, 1] rfl) (hD.sub (ws' := [(mo, .inr (7, [.ref mo_st, .ref mo_at, .ref mo_isKept, .int 0, .int 2, .ref mo_draft, .int 0, .int 2, .int 0, .int (-4), .ref mo_tape, .int 0, .int 0, .int 0, .int 0, .int 0, .int 0, .int 0, .ref mo_row, .int 0, .int 0, .int 0, .int 0, .ref mo_before, .long 0, .long 0, .long 0, .ref mo_lanes, .ref mo_sizes, .ref mo_cells, .int 0, .ref mo_had])), (mo_st, .inl (k 0, 132, .inl (hst)))]) [0, 1] (by decide) rfl) (ci := 7) (q0 := 0) rfl rfl) rfl rfl hl.1 rfl (lv_room (Nat.le_of_ble_eq_true rfl)) dX8_keep_37 ⟨Nat.le_of_ble_eq_true rfl, Nat.le_of_ble_eq_true rfl⟩) hP hD hS hA [0, 1] [2] [(mo_isKept, .inl (k 2, 2, .inl (upd hsz 0 1)))] rfl rfl (by decide) (by decide) [0] (fun u_10 => [(mo_isKept, .inl (k 2, 2, .inl (upd hsz 0 1)))]) (fun _ => rfl) (by decide) (fun u_10 H locs hw_9 hP hD hS => ?_)
      have hP : va_P D vwCl [(mo_isKept, .inl (k 2, 2, .inl (upd hsz 0 1)))] H := hP
      have hD : va_D A [(mo_isKept, .inl (k 2, 2, .inl (upd hsz 0 1)))] := hD
      refine lv_iload_n hx hb dX8_keep_40 rfl (lv_at hl 0 rfl) ?_
      exact hs_iret hx hb hr hlocks hK hP hD hS () [] rfl (by decide) dX8_keep_41 (by first | rfl | decide | (simp only [hsb_0, hsb_1] at c_4; simp [A_keep, c_4]; done) | (simp [A_keep, c_4]; done))
    · refine lv_aload_n hx hb dX8_keep_12 rfl (lv_at hl 0 rfl) ?_
      refine va_get (D := D) (ci := 7) (v := .ref mo_isKept) (C := RX8) (T := TX8) (N := 32) hx hb hts hiX8 hown hK hP 0 rfl rfl 2 (by decide) fl16 (fun _ h9 => h9) rfl dX8_keep_13 ?_
      refine lv_iload_n hx hb dX8_keep_16 rfl (lv_at hl 1 rfl) ?_
      refine va_zald hx hb hK hP 2 2 rfl rfl (hs_in (by decide)) dX8_keep_17 ?_
      refine hs_topi 0 (by first | rfl | decide +kernel) ?_
      refine hs_pi (va_runS (As := [.int 0]) (rest := []) ⟨hx, hb, hml, hown, hts⟩ (m_flag0 l D k _ ) (va_cwS 1 hts gX8_keep_X8_flag rfl rfl rfl (by decide +kernel) ⟨Nat.le_of_ble_eq_true rfl, Nat.le_of_ble_eq_true rfl⟩) (hs_preS hK hN (hs_subP (w := []) hP [] rfl) (hD.sub (ws' := []) [] (by decide) rfl)) rfl rfl hl.1 rfl (lv_room (Nat.le_of_ble_eq_true rfl)) dX8_keep_18 ⟨Nat.le_of_ble_eq_true rfl, Nat.le_of_ble_eq_true rfl⟩) hP hD hS hA (fun r_11 u_13 H locs hw_12 hP hS => ?_)
      refine hs_topi 0 (hw_12.trans (by first | rfl | decide +kernel | rfl)) ?_
      refine lv_istore_n (lv' := [(2, .int 0), (0, .ref mo), (1, .int 1)]) hx hb dX8_keep_21 rfl hl (by decide) rfl (fun ls hl => ?_)
      refine lv_aload_n hx hb dX8_keep_22 rfl (lv_at hl 1 rfl) ?_
      refine va_get (D := D) (ci := 7) (v := .ref mo_isKept) (C := RX8) (T := TX8) (N := 32) hx hb hts hiX8 hown hK hP 0 rfl rfl 2 (by decide) fl16 (fun _ h9 => h9) rfl dX8_keep_23 ?_
      refine lv_iload_n hx hb dX8_keep_26 rfl (lv_at hl 2 rfl) ?_
      refine lv_iconst (v := 1) hx hb dX8_keep_27 (by decide) ?_
      refine va_zast hx hb hK hP hD hS 2 2 rfl rfl (hs_in (by decide)) dX8_keep_28 (fun H locs hP hD hS => ?_)
      have hP : va_P D vwCl [(mo, .inr (7, [.ref mo_st, .ref mo_at, .ref mo_isKept, .int 0, .int 2, .ref mo_draft, .int 0, .int 2, .int 0, .int (-4), .ref mo_tape, .int 0, .int 0, .int 0, .int 0, .int 0, .int 0, .int 0, .ref mo_row, .int 0, .int 0, .int 0, .int 0, .ref mo_before, .long 0, .long 0, .long 0, .ref mo_lanes, .ref mo_sizes, .ref mo_cells, .int 0, .ref mo_had])), (mo_st, .inl (k 0, 132, .inl (hst))), (mo_isKept, .inl (k 2, 2, .inl (upd hsz 1 1)))] H := hP
      have hD : va_D A [(mo, .inr (7, [.ref mo_st, .ref mo_at, .ref mo_isKept, .int 0, .int 2, .ref mo_draft, .int 0, .int 2, .int 0, .int (-4), .ref mo_tape, .int 0, .int 0, .int 0, .int 0, .int 0, .int 0, .int 0, .ref mo_row, .int 0, .int 0, .int 0, .int 0, .ref mo_before, .long 0, .long 0, .long 0, .ref mo_lanes, .ref mo_sizes, .ref mo_cells, .int 0, .ref mo_had])), (mo_st, .inl (k 0, 132, .inl (hst))), (mo_isKept, .inl (k 2, 2, .inl (upd hsz 1 1)))] := hD
      refine lv_aload_n hx hb dX8_keep_29 rfl (lv_at hl 1 rfl) ?_
      refine lv_bipush (v := 44) hx hb dX8_keep_30 (by decide) ?_
      refine lv_iload_n hx hb dX8_keep_32 rfl (lv_at hl 2 rfl) ?_
      refine lv_iconst (v := 1) hx hb dX8_keep_33 (by decide) ?_
      refine lv_iadd hx hb dX8_keep_34 ?_
      refine hs_topi 2 (by first | rfl | decide +kernel) ?_
      refine lv_imul hx hb dX8_keep_35 ?_
      refine hs_topi 88 (by first | rfl | decide +kernel) ?_
      refine lv_iconst (v := 0) hx hb dX8_keep_36 (by decide) ?_
      refine hs_cv (va_runV (As := [.int 88, .int 0]) (rest := []) ⟨hx, hb, hml, hown, hts⟩ (m_copies_88 l D k _ mo mo_st mo_at mo_isKept 0 2 mo_draft 0 2 0 (-4) mo_tape 0 0 0 0 0 0 0 mo_row 0 0 0 0 mo_before 0 0 0 mo_lanes mo_sizes mo_cells 0 mo_had hst) (cwV 2 hts gX8_keep_X8_copies rfl rfl rfl (by decide +kernel) ⟨Nat.le_of_ble_eq_true rfl, Nat.le_of_ble_eq_true rfl⟩) (hs_preV hK hN (hs_subP (w := [(mo, .inr (7, [.ref mo_st, .ref mo_at, .ref mo_isKept, .int 0, .int 2, .ref mo_draft, .int 0, .int 2, .int 0, .int (-4), .ref mo_tape, .int 0, .int 0, .int 0, .int 0, .int 0, .int 0, .int 0, .ref mo_row, .int 0, .int 0, .int 0, .int 0, .ref mo_before, .long 0, .long 0, .long 0, .ref mo_lanes, .ref mo_sizes, .ref mo_cells, .int 0, .ref mo_had])), (mo_st, .inl (k 0, 132, .inl (hst)))]) hP [0, 1] rfl) (hD.sub (ws' := [(mo, .inr (7, [.ref mo_st, .ref mo_at, .ref mo_isKept, .int 0, .int 2, .ref mo_draft, .int 0, .int 2, .int 0, .int (-4), .ref mo_tape, .int 0, .int 0, .int 0, .int 0, .int 0, .int 0, .int 0, .ref mo_row, .int 0, .int 0, .int 0, .int 0, .ref mo_before, .long 0, .long 0, .long 0, .ref mo_lanes, .ref mo_sizes, .ref mo_cells, .int 0, .ref mo_had])), (mo_st, .inl (k 0, 132, .inl (hst)))]) [0, 1] (by decide) rfl) (ci := 7) (q0 := 0) rfl rfl) rfl rfl hl.1 rfl (lv_room (Nat.le_of_ble_eq_true rfl)) dX8_keep_37 ⟨Nat.le_of_ble_eq_true rfl, Nat.le_of_ble_eq_true rfl⟩) hP hD hS hA [0, 1] [2] [(mo_isKept, .inl (k 2, 2, .inl (upd hsz 1 1)))] rfl rfl (by decide) (by decide) [0] (fun u_16 => [(mo_isKept, .inl (k 2, 2, .inl (upd hsz 1 1)))]) (fun _ => rfl) (by decide) (fun u_16 H locs hw_15 hP hD hS => ?_)
      have hP : va_P D vwCl [(mo_isKept, .inl (k 2, 2, .inl (upd hsz 1 1)))] H := hP
      have hD : va_D A [(mo_isKept, .inl (k 2, 2, .inl (upd hsz 1 1)))] := hD
      refine lv_iload_n hx hb dX8_keep_40 rfl (lv_at hl 0 rfl) ?_
      exact hs_iret hx hb hr hlocks hK hP hD hS () [] rfl (by decide) dX8_keep_41 (by first | rfl | decide | (simp only [hsb_0, hsb_1] at c_4; simp [A_keep, c_4]; done) | (simp [A_keep, c_4]; done))
  · refine lv_iconst (v := (-1)) hx hb dX8_keep_10 (by decide) ?_
    exact hs_iret hx hb hr hlocks hK hP hD hS () [] rfl (by decide) dX8_keep_11 (by first | rfl | decide | (simp only [hsb_0, hsb_1] at c_4; simp [A_keep, c_4]; done) | (simp [A_keep, c_4]; done))

set_option maxHeartbeats 4000000 in
set_option maxRecDepth 100000 in
theorem q_back (l : Launch) (D : va_G) (k : Nat → ClassId) (sz : Nat) (mo : Nat) (mo_st : Nat) (mo_at : Nat) (mo_isKept : Nat) (mo_draft : Nat) (mo_tape : Nat) (mo_row : Nat) (mo_before : Nat) (mo_lanes : Nat) (mo_sizes : Nat) (mo_cells : Nat) (mo_had : Nat) (i : Int32)  : MI l yX8_back wsX8_back ({ frames := 1, cells := 0, slots := 0, locals := 25 }) D k [.ref mo, .int i] [(mo, .inr (7, [.ref mo_st, .ref mo_at, .ref mo_isKept, .int 0, .int 2, .ref mo_draft, .int 0, .int 2, .int 0, .int (-4), .ref mo_tape, .int 0, .int 0, .int 0, .int 0, .int 0, .int 0, .int 0, .ref mo_row, .int 0, .int 0, .int 0, .int 0, .ref mo_before, .long 0, .long 0, .long 0, .ref mo_lanes, .ref mo_sizes, .ref mo_cells, .int 0, .ref mo_had])), (mo_isKept, .inl (k 2, 2, .inl (hsz)))] sz (fun (r : Int32) (u : Unit) => r = A_back i) (fun (u : Unit) => []) := by
  refine Met.ofW (cc := cX8_back) (maxL := 2) (ret := (some .int)) (by decide) rfl ?_
  intro p e s m args below meth c s₁ B hml hv
  obtain ⟨rfl, hsz, hP, hK, hD0, hN⟩ := hv
  have hx := B.exec
  have hb := B.bytes
  have hr := B.returns
  have hlocks := B.notSynchronized
  have hts := atoms_spec (ws := wsX8_back) B.pre
  have hown : s.vm.findClass RX8 = some m.cls := findClass_of_methodNamed B.named
  have hiX8 : ∀ w ∈ u_ws RX8 TX8 32, w ∈ wsX8_back := by decide +kernel
  have fl16 := hts (.fieldLink RX8 16 "HalfScalesModel" "isKept" "[Z") (by decide +kernel)
  subst hsz
  have hD := hD0.self (sz := s.heap.size)
  generalize hAe : va_A [(mo, .inr (7, [.ref mo_st, .ref mo_at, .ref mo_isKept, .int 0, .int 2, .ref mo_draft, .int 0, .int 2, .int 0, .int (-4), .ref mo_tape, .int 0, .int 0, .int 0, .int 0, .int 0, .int 0, .int 0, .ref mo_row, .int 0, .int 0, .int 0, .int 0, .ref mo_before, .long 0, .long 0, .long 0, .ref mo_lanes, .ref mo_sizes, .ref mo_cells, .int 0, .ref mo_had])), (mo_isKept, .inl (k 2, 2, .inl (hsz)))] s.heap.size = A at hD ⊢
  have hA : ∀ q : Nat, s.heap.size ≤ q → A q := fun q h => by rw [← hAe]; exact Or.inr h
  have hS : va_S A s.heap s.heap [] := va_S.rf
  have hl := lv_entry ([.ref mo, .int i]) (n := 2) (Nat.le_of_ble_eq_true rfl)
  rw [lg_entry_eq]
  generalize (lg_sl ([.ref mo, .int i]) ++ List.replicate (2 - (lg_sl ([.ref mo, .int i])).length) Slot.unset).toArray = ls at hl ⊢
  have hl : lv_has ls 2 [(0, .ref mo), (1, .int i)] := hl
  have hP : va_P D vwCl [(mo, .inr (7, [.ref mo_st, .ref mo_at, .ref mo_isKept, .int 0, .int 2, .ref mo_draft, .int 0, .int 2, .int 0, .int (-4), .ref mo_tape, .int 0, .int 0, .int 0, .int 0, .int 0, .int 0, .int 0, .ref mo_row, .int 0, .int 0, .int 0, .int 0, .ref mo_before, .long 0, .long 0, .long 0, .ref mo_lanes, .ref mo_sizes, .ref mo_cells, .int 0, .ref mo_had])), (mo_isKept, .inl (k 2, 2, .inl (hsz)))] s.heap := hP
  refine lv_iload_n hx hb dX8_back_0 rfl (lv_at hl 1 rfl) ?_
  refine lv_i2l hx hb dX8_back_1 rfl ?_
  refine lv_lconst (v := 0) hx hb dX8_back_2 (by decide) ?_
  refine lv_lconst (v := 1) hx hb dX8_back_3 (by decide) ?_
  refine hs_pi (va_runS (As := [.long (((i) : Int32).toInt64), .long 0, .long 1]) (rest := []) ⟨hx, hb, hml, hown, hts⟩ (m_in l D k _ i 0 1) (va_cwS 3 hts gX8_back_X8_in rfl rfl rfl (by decide +kernel) ⟨Nat.le_of_ble_eq_true rfl, Nat.le_of_ble_eq_true rfl⟩) (hs_preS hK hN (hs_subP (w := []) hP [] rfl) (hD.sub (ws' := []) [] (by decide) rfl)) rfl rfl hl.1 rfl (lv_room (Nat.le_of_ble_eq_true rfl)) dX8_back_4 ⟨Nat.le_of_ble_eq_true rfl, Nat.le_of_ble_eq_true rfl⟩) hP hD hS hA (fun r_1 u_3 H locs hw_2 hP hS => ?_)
  refine hs_topi (hsb (hsin i 0 1)) hw_2 ?_
  refine lv_if_ne (tgt := 12) hx hb dX8_back_7 (by decide) (fun c_4 => ?_) (fun c_4 => ?_)
  · rcases hs_v01 (hs_nb c_4) with rfl | rfl
    · refine lv_aload_n hx hb dX8_back_12 rfl (lv_at hl 0 rfl) ?_
      refine va_get (D := D) (ci := 7) (v := .ref mo_isKept) (C := RX8) (T := TX8) (N := 32) hx hb hts hiX8 hown hK hP 0 rfl rfl 2 (by decide) fl16 (fun _ h9 => h9) rfl dX8_back_13 ?_
      refine lv_iload_n hx hb dX8_back_16 rfl (lv_at hl 1 rfl) ?_
      refine va_zald hx hb hK hP 1 2 rfl rfl (hs_in (by decide)) dX8_back_17 ?_
      refine hs_topi 0 (by first | rfl | decide +kernel) ?_
      refine lv_if_ne (tgt := 24) hx hb dX8_back_18 (by decide) (fun c_5 => absurd c_5 (by decide)) (fun c_5 => ?_)
      refine lv_bipush (v := (-2)) hx hb dX8_back_21 (by decide) ?_
      exact hs_iret hx hb hr hlocks hK hP hD hS () [] rfl (by decide) dX8_back_23 (by first | rfl | decide | (simp only [hsb_0, hsb_1] at c_4 c_5; simp [A_back, c_4, c_5]; done) | (simp [A_back, c_4, c_5]; done))
    · refine lv_aload_n hx hb dX8_back_12 rfl (lv_at hl 0 rfl) ?_
      refine va_get (D := D) (ci := 7) (v := .ref mo_isKept) (C := RX8) (T := TX8) (N := 32) hx hb hts hiX8 hown hK hP 0 rfl rfl 2 (by decide) fl16 (fun _ h9 => h9) rfl dX8_back_13 ?_
      refine lv_iload_n hx hb dX8_back_16 rfl (lv_at hl 1 rfl) ?_
      refine va_zald hx hb hK hP 1 2 rfl rfl (hs_in (by decide)) dX8_back_17 ?_
      refine hs_topi 0 (by first | rfl | decide +kernel) ?_
      refine lv_if_ne (tgt := 24) hx hb dX8_back_18 (by decide) (fun c_6 => absurd c_6 (by decide)) (fun c_6 => ?_)
      refine lv_bipush (v := (-2)) hx hb dX8_back_21 (by decide) ?_
      exact hs_iret hx hb hr hlocks hK hP hD hS () [] rfl (by decide) dX8_back_23 (by first | rfl | decide | (simp only [hsb_0, hsb_1] at c_4 c_6; simp [A_back, c_4, c_6]; done) | (simp [A_back, c_4, c_6]; done))
  · refine lv_iconst (v := (-1)) hx hb dX8_back_10 (by decide) ?_
    exact hs_iret hx hb hr hlocks hK hP hD hS () [] rfl (by decide) dX8_back_11 (by first | rfl | decide | (simp only [hsb_0, hsb_1] at c_4; simp [A_back, c_4]; done) | (simp [A_back, c_4]; done))

set_option maxHeartbeats 4000000 in
set_option maxRecDepth 100000 in
theorem q_sheet (l : Launch) (D : va_G) (k : Nat → ClassId) (sz : Nat) (mo : Nat) (mo_st : Nat) (mo_at : Nat) (mo_isKept : Nat) (mo_draft : Nat) (mo_tape : Nat) (mo_row : Nat) (mo_before : Nat) (mo_lanes : Nat) (mo_sizes : Nat) (mo_cells : Nat) (mo_had : Nat) (i : Int32) (v : Int32) (n : Int32)  : MI l yX8_sheet wsX8_sheet ({ frames := 2, cells := 0, slots := 0, locals := 46 }) D k [.ref mo, .int i, .int v, .int n] [(mo, .inr (7, [.ref mo_st, .ref mo_at, .ref mo_isKept, .int 0, .int 2, .ref mo_draft, .int 0, .int 2, .int 0, .int (-4), .ref mo_tape, .int 0, .int 0, .int 0, .int 0, .int 0, .int 0, .int 0, .ref mo_row, .int 0, .int 0, .int 0, .int 0, .ref mo_before, .long 0, .long 0, .long 0, .ref mo_lanes, .ref mo_sizes, .ref mo_cells, .int 0, .ref mo_had])), (mo_lanes, .inl (k 0, 4, .inl (hsl))), (mo_sizes, .inl (k 0, 4, .inl (hsz))), (mo_cells, .inl (k 0, 160, .inl (hsz)))] sz (fun (r : Int32) (u : Unit) => r = A_sheet i v n) (fun (u : Unit) => []) := by
  refine Met.ofW (cc := cX8_sheet) (maxL := 5) (ret := (some .int)) (by decide) rfl ?_
  intro p e s m args below meth c s₁ B hml hv
  obtain ⟨rfl, hsz, hP, hK, hD0, hN⟩ := hv
  have hx := B.exec
  have hb := B.bytes
  have hr := B.returns
  have hlocks := B.notSynchronized
  have hts := atoms_spec (ws := wsX8_sheet) B.pre
  have hown : s.vm.findClass RX8 = some m.cls := findClass_of_methodNamed B.named
  have hiX8 : ∀ w ∈ u_ws RX8 TX8 32, w ∈ wsX8_sheet := by decide +kernel
  have fl32 := hts (.fieldLink RX8 32 "HalfScalesModel" "lanes" "[I") (by decide +kernel)
  have fl35 := hts (.fieldLink RX8 35 "HalfScalesModel" "sizes" "[I") (by decide +kernel)
  have fl38 := hts (.fieldLink RX8 38 "HalfScalesModel" "cells" "[I") (by decide +kernel)
  subst hsz
  have hD := hD0.self (sz := s.heap.size)
  generalize hAe : va_A [(mo, .inr (7, [.ref mo_st, .ref mo_at, .ref mo_isKept, .int 0, .int 2, .ref mo_draft, .int 0, .int 2, .int 0, .int (-4), .ref mo_tape, .int 0, .int 0, .int 0, .int 0, .int 0, .int 0, .int 0, .ref mo_row, .int 0, .int 0, .int 0, .int 0, .ref mo_before, .long 0, .long 0, .long 0, .ref mo_lanes, .ref mo_sizes, .ref mo_cells, .int 0, .ref mo_had])), (mo_lanes, .inl (k 0, 4, .inl (hsl))), (mo_sizes, .inl (k 0, 4, .inl (hsz))), (mo_cells, .inl (k 0, 160, .inl (hsz)))] s.heap.size = A at hD ⊢
  have hA : ∀ q : Nat, s.heap.size ≤ q → A q := fun q h => by rw [← hAe]; exact Or.inr h
  have hS : va_S A s.heap s.heap [] := va_S.rf
  have hl := lv_entry ([.ref mo, .int i, .int v, .int n]) (n := 5) (Nat.le_of_ble_eq_true rfl)
  rw [lg_entry_eq]
  generalize (lg_sl ([.ref mo, .int i, .int v, .int n]) ++ List.replicate (5 - (lg_sl ([.ref mo, .int i, .int v, .int n])).length) Slot.unset).toArray = ls at hl ⊢
  have hl : lv_has ls 5 [(0, .ref mo), (1, .int i), (2, .int v), (3, .int n)] := hl
  have hP : va_P D vwCl [(mo, .inr (7, [.ref mo_st, .ref mo_at, .ref mo_isKept, .int 0, .int 2, .ref mo_draft, .int 0, .int 2, .int 0, .int (-4), .ref mo_tape, .int 0, .int 0, .int 0, .int 0, .int 0, .int 0, .int 0, .ref mo_row, .int 0, .int 0, .int 0, .int 0, .ref mo_before, .long 0, .long 0, .long 0, .ref mo_lanes, .ref mo_sizes, .ref mo_cells, .int 0, .ref mo_had])), (mo_lanes, .inl (k 0, 4, .inl (hsl))), (mo_sizes, .inl (k 0, 4, .inl (hsz))), (mo_cells, .inl (k 0, 160, .inl (hsz)))] s.heap := hP
  refine lv_iload_n hx hb dX8_sheet_0 rfl (lv_at hl 1 rfl) ?_
  refine lv_iload_n hx hb dX8_sheet_1 rfl (lv_at hl 2 rfl) ?_
  refine hs_pi (va_runS (As := [.int i, .int v]) (rest := []) ⟨hx, hb, hml, hown, hts⟩ (m_isSheet l D k _ i v) (va_cwS 2 hts gX8_sheet_X8_isSheet rfl rfl rfl (by decide +kernel) ⟨Nat.le_of_ble_eq_true rfl, Nat.le_of_ble_eq_true rfl⟩) (hs_preS hK hN (hs_subP (w := []) hP [] rfl) (hD.sub (ws' := []) [] (by decide) rfl)) rfl rfl hl.1 rfl (lv_room (Nat.le_of_ble_eq_true rfl)) dX8_sheet_2 ⟨Nat.le_of_ble_eq_true rfl, Nat.le_of_ble_eq_true rfl⟩) hP hD hS hA (fun r_1 u_3 H locs hw_2 hP hS => ?_)
  refine hs_topi (hsb (hsin i 0 3 && hsin v 0 2)) hw_2 ?_
  refine lv_if_eq (tgt := 14) hx hb dX8_sheet_5 (by decide) (fun c_4 => ?_) (fun c_4 => ?_)
  · refine lv_iconst (v := (-1)) hx hb dX8_sheet_14 (by decide) ?_
    exact hs_iret hx hb hr hlocks hK hP hD hS () [] rfl (by decide) dX8_sheet_15 (by first | rfl | decide | (simp only [hsb_0, hsb_1] at c_4; simp [A_sheet, c_4]; done) | (simp [A_sheet, c_4]; done))
  · rcases hs_v03 <| hs_and1 (hs_nb c_4) with rfl | rfl | rfl | rfl
    · refine lv_iload_n hx hb dX8_sheet_8 rfl (lv_at hl 3 rfl) ?_
      refine lv_bipush (v := 40) hx hb dX8_sheet_9 (by decide) ?_
      refine lv_icmp_le (tgt := 16) hx hb dX8_sheet_11 (by decide) (fun c_5 => ?_) (fun c_5 => ?_)
      · refine lv_iload_n hx hb dX8_sheet_16 rfl (lv_at hl 3 rfl) ?_
        refine lv_if_ge (tgt := 23) hx hb dX8_sheet_17 (by decide) (fun c_6 => ?_) (fun c_6 => ?_)
        · refine lv_aload_n hx hb dX8_sheet_23 rfl (lv_at hl 0 rfl) ?_
          refine va_get (D := D) (ci := 7) (v := .ref mo_lanes) (C := RX8) (T := TX8) (N := 32) hx hb hts hiX8 hown hK hP 0 rfl rfl 27 (by decide) fl32 (fun _ h9 => h9) rfl dX8_sheet_24 ?_
          refine lv_iload_n hx hb dX8_sheet_27 rfl (lv_at hl 1 rfl) ?_
          refine lv_iload_n hx hb dX8_sheet_28 rfl (lv_at hl 2 rfl) ?_
          refine va_iast hx hb hK hP hD hS 1 0 rfl rfl (hs_in (by decide)) dX8_sheet_29 (fun H locs hP hD hS => ?_)
          have hP : va_P D vwCl [(mo, .inr (7, [.ref mo_st, .ref mo_at, .ref mo_isKept, .int 0, .int 2, .ref mo_draft, .int 0, .int 2, .int 0, .int (-4), .ref mo_tape, .int 0, .int 0, .int 0, .int 0, .int 0, .int 0, .int 0, .ref mo_row, .int 0, .int 0, .int 0, .int 0, .ref mo_before, .long 0, .long 0, .long 0, .ref mo_lanes, .ref mo_sizes, .ref mo_cells, .int 0, .ref mo_had])), (mo_lanes, .inl (k 0, 4, .inl (upd hsl 0 v))), (mo_sizes, .inl (k 0, 4, .inl (hsz))), (mo_cells, .inl (k 0, 160, .inl (hsz)))] H := hP
          have hD : va_D A [(mo, .inr (7, [.ref mo_st, .ref mo_at, .ref mo_isKept, .int 0, .int 2, .ref mo_draft, .int 0, .int 2, .int 0, .int (-4), .ref mo_tape, .int 0, .int 0, .int 0, .int 0, .int 0, .int 0, .int 0, .ref mo_row, .int 0, .int 0, .int 0, .int 0, .ref mo_before, .long 0, .long 0, .long 0, .ref mo_lanes, .ref mo_sizes, .ref mo_cells, .int 0, .ref mo_had])), (mo_lanes, .inl (k 0, 4, .inl (upd hsl 0 v))), (mo_sizes, .inl (k 0, 4, .inl (hsz))), (mo_cells, .inl (k 0, 160, .inl (hsz)))] := hD
          refine lv_aload_n hx hb dX8_sheet_30 rfl (lv_at hl 0 rfl) ?_
          refine va_get (D := D) (ci := 7) (v := .ref mo_sizes) (C := RX8) (T := TX8) (N := 32) hx hb hts hiX8 hown hK hP 0 rfl rfl 28 (by decide) fl35 (fun _ h9 => h9) rfl dX8_sheet_31 ?_
          refine lv_iload_n hx hb dX8_sheet_34 rfl (lv_at hl 1 rfl) ?_
          refine lv_iload_n hx hb dX8_sheet_35 rfl (lv_at hl 3 rfl) ?_
          refine va_iast hx hb hK hP hD hS 2 0 rfl rfl (hs_in (by decide)) dX8_sheet_36 (fun H locs hP hD hS => ?_)
          have hP : va_P D vwCl [(mo, .inr (7, [.ref mo_st, .ref mo_at, .ref mo_isKept, .int 0, .int 2, .ref mo_draft, .int 0, .int 2, .int 0, .int (-4), .ref mo_tape, .int 0, .int 0, .int 0, .int 0, .int 0, .int 0, .int 0, .ref mo_row, .int 0, .int 0, .int 0, .int 0, .ref mo_before, .long 0, .long 0, .long 0, .ref mo_lanes, .ref mo_sizes, .ref mo_cells, .int 0, .ref mo_had])), (mo_lanes, .inl (k 0, 4, .inl (upd hsl 0 v))), (mo_sizes, .inl (k 0, 4, .inl (upd hsz 0 n))), (mo_cells, .inl (k 0, 160, .inl (hsz)))] H := hP
          have hD : va_D A [(mo, .inr (7, [.ref mo_st, .ref mo_at, .ref mo_isKept, .int 0, .int 2, .ref mo_draft, .int 0, .int 2, .int 0, .int (-4), .ref mo_tape, .int 0, .int 0, .int 0, .int 0, .int 0, .int 0, .int 0, .ref mo_row, .int 0, .int 0, .int 0, .int 0, .ref mo_before, .long 0, .long 0, .long 0, .ref mo_lanes, .ref mo_sizes, .ref mo_cells, .int 0, .ref mo_had])), (mo_lanes, .inl (k 0, 4, .inl (upd hsl 0 v))), (mo_sizes, .inl (k 0, 4, .inl (upd hsz 0 n))), (mo_cells, .inl (k 0, 160, .inl (hsz)))] := hD
          refine lv_iconst (v := 0) hx hb dX8_sheet_37 (by decide) ?_
          refine lv_istore (lv' := [(4, .int 0), (0, .ref mo), (1, .int 0), (2, .int v), (3, .int n)]) hx hb dX8_sheet_38 hl (by decide) rfl (fun ls hl => ?_)
          refine hs_for 40 (fun i => [(mo, .inr (7, [.ref mo_st, .ref mo_at, .ref mo_isKept, .int 0, .int 2, .ref mo_draft, .int 0, .int 2, .int 0, .int (-4), .ref mo_tape, .int 0, .int 0, .int 0, .int 0, .int 0, .int 0, .int 0, .ref mo_row, .int 0, .int 0, .int 0, .int 0, .ref mo_before, .long 0, .long 0, .long 0, .ref mo_lanes, .ref mo_sizes, .ref mo_cells, .int 0, .ref mo_had])), (mo_lanes, .inl (k 0, 4, .inl (upd hsl 0 v))), (mo_sizes, .inl (k 0, 4, .inl (upd hsz 0 n))), (mo_cells, .inl (k 0, 160, .inl (hsz)))]) (fun i => [(4, .int (nI i)), (0, .ref mo), (1, .int 0), (2, .int v), (3, .int n)]) ?_ ?_ hP hD hS hl
          · intro i hi ih H locs ls hP hD hS hl
            refine lv_iload hx hb dX8_sheet_40 (lv_at hl 0 rfl) ?_
            refine lv_bipush (v := 40) hx hb dX8_sheet_42 (by decide) ?_
            refine lv_icmp_ge (tgt := 66) hx hb dX8_sheet_44 (by decide) (fun c_7 => absurd c_7 (nI_ge (show i < 40 by omega) (by decide))) (fun c_7 => ?_)
            refine lv_aload_n hx hb dX8_sheet_47 rfl (lv_at hl 1 rfl) ?_
            refine va_get (D := D) (ci := 7) (v := .ref mo_cells) (C := RX8) (T := TX8) (N := 32) hx hb hts hiX8 hown hK hP 0 rfl rfl 29 (by decide) fl38 (fun _ h9 => h9) rfl dX8_sheet_48 ?_
            refine lv_bipush (v := 40) hx hb dX8_sheet_51 (by decide) ?_
            refine lv_iload_n hx hb dX8_sheet_53 rfl (lv_at hl 2 rfl) ?_
            refine lv_imul hx hb dX8_sheet_54 ?_
            refine hs_topi 0 (by first | rfl | decide +kernel) ?_
            refine lv_iload hx hb dX8_sheet_55 (lv_at hl 0 rfl) ?_
            refine lv_iadd hx hb dX8_sheet_57 ?_
            refine hs_topi (nI (0 + i)) (show (0 : Int32) + nI i = nI (0 + i) from nI_add 0 i) ?_
            refine lv_iconst (v := 0) hx hb dX8_sheet_58 (by decide) ?_
            refine va_iast hx hb hK hP hD hS 3 0 rfl rfl (vp_in_nI (show 0 + i < 160 by omega) (by decide)) dX8_sheet_59 (fun H locs hP hD hS => ?_)
            have hE : upd hsz ((nI (0 + i)).toNatClampNeg) 0 = hsz := hs_uz _
            have hP : va_P D vwCl [(mo, .inr (7, [.ref mo_st, .ref mo_at, .ref mo_isKept, .int 0, .int 2, .ref mo_draft, .int 0, .int 2, .int 0, .int (-4), .ref mo_tape, .int 0, .int 0, .int 0, .int 0, .int 0, .int 0, .int 0, .ref mo_row, .int 0, .int 0, .int 0, .int 0, .ref mo_before, .long 0, .long 0, .long 0, .ref mo_lanes, .ref mo_sizes, .ref mo_cells, .int 0, .ref mo_had])), (mo_lanes, .inl (k 0, 4, .inl (upd hsl 0 v))), (mo_sizes, .inl (k 0, 4, .inl (upd hsz 0 n))), (mo_cells, .inl (k 0, 160, .inl (upd hsz ((nI (0 + i)).toNatClampNeg) 0)))] H := hP
            have hD : va_D A [(mo, .inr (7, [.ref mo_st, .ref mo_at, .ref mo_isKept, .int 0, .int 2, .ref mo_draft, .int 0, .int 2, .int 0, .int (-4), .ref mo_tape, .int 0, .int 0, .int 0, .int 0, .int 0, .int 0, .int 0, .ref mo_row, .int 0, .int 0, .int 0, .int 0, .ref mo_before, .long 0, .long 0, .long 0, .ref mo_lanes, .ref mo_sizes, .ref mo_cells, .int 0, .ref mo_had])), (mo_lanes, .inl (k 0, 4, .inl (upd hsl 0 v))), (mo_sizes, .inl (k 0, 4, .inl (upd hsz 0 n))), (mo_cells, .inl (k 0, 160, .inl (upd hsz ((nI (0 + i)).toNatClampNeg) 0)))] := hD
            rw [hE] at hP hD
            refine lv_iinc (v := nI (i + 1)) (lv' := [(4, .int (nI (i + 1))), (0, .ref mo), (1, .int 0), (2, .int v), (3, .int n)]) hx hb dX8_sheet_60 hl (k := 0) rfl (by rw [nI_succ]; rfl) (by decide) rfl (fun ls hl => ?_)
            refine lv_goto (tgt := 40) hx hb dX8_sheet_63 (by decide) ?_
            exact ih _ _ _ hP hD hS (lv_sub hl [0, 1, 2, 3, 4] rfl)
          · intro H locs ls hP hD hS hl
            refine lv_iload hx hb dX8_sheet_40 (lv_at hl 0 rfl) ?_
            refine lv_bipush (v := 40) hx hb dX8_sheet_42 (by decide) ?_
            refine lv_icmp_ge (tgt := 66) hx hb dX8_sheet_44 (by decide) (fun c_8 => ?_) (fun c_8 => absurd (show (40 : Int32) ≤ nI 40 by decide) c_8)
            refine lv_iconst (v := 1) hx hb dX8_sheet_66 (by decide) ?_
            exact hs_iret hx hb hr hlocks hK hP hD hS () [] rfl (by decide) dX8_sheet_67 (by first | rfl | decide | (simp only [hsb_0, hsb_1] at c_4 c_5 c_6 c_8; simp [A_sheet, c_4, c_5, c_6, c_8]; done) | (simp [A_sheet, c_4, c_5, c_6, c_8]; done))
        · refine lv_bipush (v := (-14)) hx hb dX8_sheet_20 (by decide) ?_
          exact hs_iret hx hb hr hlocks hK hP hD hS () [] rfl (by decide) dX8_sheet_22 (by first | rfl | decide | (simp only [hsb_0, hsb_1] at c_4 c_5 c_6; simp [A_sheet, c_4, c_5, c_6]; done) | (simp [A_sheet, c_4, c_5, c_6]; done))
      · refine lv_iconst (v := (-1)) hx hb dX8_sheet_14 (by decide) ?_
        exact hs_iret hx hb hr hlocks hK hP hD hS () [] rfl (by decide) dX8_sheet_15 (by first | rfl | decide | (simp only [hsb_0, hsb_1] at c_4 c_5; simp [A_sheet, c_4, c_5]; done) | (simp [A_sheet, c_4, c_5]; done))
    · refine lv_iload_n hx hb dX8_sheet_8 rfl (lv_at hl 3 rfl) ?_
      refine lv_bipush (v := 40) hx hb dX8_sheet_9 (by decide) ?_
      refine lv_icmp_le (tgt := 16) hx hb dX8_sheet_11 (by decide) (fun c_9 => ?_) (fun c_9 => ?_)
      · refine lv_iload_n hx hb dX8_sheet_16 rfl (lv_at hl 3 rfl) ?_
        refine lv_if_ge (tgt := 23) hx hb dX8_sheet_17 (by decide) (fun c_10 => ?_) (fun c_10 => ?_)
        · refine lv_aload_n hx hb dX8_sheet_23 rfl (lv_at hl 0 rfl) ?_
          refine va_get (D := D) (ci := 7) (v := .ref mo_lanes) (C := RX8) (T := TX8) (N := 32) hx hb hts hiX8 hown hK hP 0 rfl rfl 27 (by decide) fl32 (fun _ h9 => h9) rfl dX8_sheet_24 ?_
          refine lv_iload_n hx hb dX8_sheet_27 rfl (lv_at hl 1 rfl) ?_
          refine lv_iload_n hx hb dX8_sheet_28 rfl (lv_at hl 2 rfl) ?_
          refine va_iast hx hb hK hP hD hS 1 0 rfl rfl (hs_in (by decide)) dX8_sheet_29 (fun H locs hP hD hS => ?_)
          have hP : va_P D vwCl [(mo, .inr (7, [.ref mo_st, .ref mo_at, .ref mo_isKept, .int 0, .int 2, .ref mo_draft, .int 0, .int 2, .int 0, .int (-4), .ref mo_tape, .int 0, .int 0, .int 0, .int 0, .int 0, .int 0, .int 0, .ref mo_row, .int 0, .int 0, .int 0, .int 0, .ref mo_before, .long 0, .long 0, .long 0, .ref mo_lanes, .ref mo_sizes, .ref mo_cells, .int 0, .ref mo_had])), (mo_lanes, .inl (k 0, 4, .inl (upd hsl 1 v))), (mo_sizes, .inl (k 0, 4, .inl (hsz))), (mo_cells, .inl (k 0, 160, .inl (hsz)))] H := hP
          have hD : va_D A [(mo, .inr (7, [.ref mo_st, .ref mo_at, .ref mo_isKept, .int 0, .int 2, .ref mo_draft, .int 0, .int 2, .int 0, .int (-4), .ref mo_tape, .int 0, .int 0, .int 0, .int 0, .int 0, .int 0, .int 0, .ref mo_row, .int 0, .int 0, .int 0, .int 0, .ref mo_before, .long 0, .long 0, .long 0, .ref mo_lanes, .ref mo_sizes, .ref mo_cells, .int 0, .ref mo_had])), (mo_lanes, .inl (k 0, 4, .inl (upd hsl 1 v))), (mo_sizes, .inl (k 0, 4, .inl (hsz))), (mo_cells, .inl (k 0, 160, .inl (hsz)))] := hD
          refine lv_aload_n hx hb dX8_sheet_30 rfl (lv_at hl 0 rfl) ?_
          refine va_get (D := D) (ci := 7) (v := .ref mo_sizes) (C := RX8) (T := TX8) (N := 32) hx hb hts hiX8 hown hK hP 0 rfl rfl 28 (by decide) fl35 (fun _ h9 => h9) rfl dX8_sheet_31 ?_
          refine lv_iload_n hx hb dX8_sheet_34 rfl (lv_at hl 1 rfl) ?_
          refine lv_iload_n hx hb dX8_sheet_35 rfl (lv_at hl 3 rfl) ?_
          refine va_iast hx hb hK hP hD hS 2 0 rfl rfl (hs_in (by decide)) dX8_sheet_36 (fun H locs hP hD hS => ?_)
          have hP : va_P D vwCl [(mo, .inr (7, [.ref mo_st, .ref mo_at, .ref mo_isKept, .int 0, .int 2, .ref mo_draft, .int 0, .int 2, .int 0, .int (-4), .ref mo_tape, .int 0, .int 0, .int 0, .int 0, .int 0, .int 0, .int 0, .ref mo_row, .int 0, .int 0, .int 0, .int 0, .ref mo_before, .long 0, .long 0, .long 0, .ref mo_lanes, .ref mo_sizes, .ref mo_cells, .int 0, .ref mo_had])), (mo_lanes, .inl (k 0, 4, .inl (upd hsl 1 v))), (mo_sizes, .inl (k 0, 4, .inl (upd hsz 1 n))), (mo_cells, .inl (k 0, 160, .inl (hsz)))] H := hP
          have hD : va_D A [(mo, .inr (7, [.ref mo_st, .ref mo_at, .ref mo_isKept, .int 0, .int 2, .ref mo_draft, .int 0, .int 2, .int 0, .int (-4), .ref mo_tape, .int 0, .int 0, .int 0, .int 0, .int 0, .int 0, .int 0, .ref mo_row, .int 0, .int 0, .int 0, .int 0, .ref mo_before, .long 0, .long 0, .long 0, .ref mo_lanes, .ref mo_sizes, .ref mo_cells, .int 0, .ref mo_had])), (mo_lanes, .inl (k 0, 4, .inl (upd hsl 1 v))), (mo_sizes, .inl (k 0, 4, .inl (upd hsz 1 n))), (mo_cells, .inl (k 0, 160, .inl (hsz)))] := hD
          refine lv_iconst (v := 0) hx hb dX8_sheet_37 (by decide) ?_
          refine lv_istore (lv' := [(4, .int 0), (0, .ref mo), (1, .int 1), (2, .int v), (3, .int n)]) hx hb dX8_sheet_38 hl (by decide) rfl (fun ls hl => ?_)
          refine hs_for 40 (fun i => [(mo, .inr (7, [.ref mo_st, .ref mo_at, .ref mo_isKept, .int 0, .int 2, .ref mo_draft, .int 0, .int 2, .int 0, .int (-4), .ref mo_tape, .int 0, .int 0, .int 0, .int 0, .int 0, .int 0, .int 0, .ref mo_row, .int 0, .int 0, .int 0, .int 0, .ref mo_before, .long 0, .long 0, .long 0, .ref mo_lanes, .ref mo_sizes, .ref mo_cells, .int 0, .ref mo_had])), (mo_lanes, .inl (k 0, 4, .inl (upd hsl 1 v))), (mo_sizes, .inl (k 0, 4, .inl (upd hsz 1 n))), (mo_cells, .inl (k 0, 160, .inl (hsz)))]) (fun i => [(4, .int (nI i)), (0, .ref mo), (1, .int 1), (2, .int v), (3, .int n)]) ?_ ?_ hP hD hS hl
          · intro i hi ih H locs ls hP hD hS hl
            refine lv_iload hx hb dX8_sheet_40 (lv_at hl 0 rfl) ?_
            refine lv_bipush (v := 40) hx hb dX8_sheet_42 (by decide) ?_
            refine lv_icmp_ge (tgt := 66) hx hb dX8_sheet_44 (by decide) (fun c_11 => absurd c_11 (nI_ge (show i < 40 by omega) (by decide))) (fun c_11 => ?_)
            refine lv_aload_n hx hb dX8_sheet_47 rfl (lv_at hl 1 rfl) ?_
            refine va_get (D := D) (ci := 7) (v := .ref mo_cells) (C := RX8) (T := TX8) (N := 32) hx hb hts hiX8 hown hK hP 0 rfl rfl 29 (by decide) fl38 (fun _ h9 => h9) rfl dX8_sheet_48 ?_
            refine lv_bipush (v := 40) hx hb dX8_sheet_51 (by decide) ?_
            refine lv_iload_n hx hb dX8_sheet_53 rfl (lv_at hl 2 rfl) ?_
            refine lv_imul hx hb dX8_sheet_54 ?_
            refine hs_topi 40 (by first | rfl | decide +kernel) ?_
            refine lv_iload hx hb dX8_sheet_55 (lv_at hl 0 rfl) ?_
            refine lv_iadd hx hb dX8_sheet_57 ?_
            refine hs_topi (nI (40 + i)) (show (40 : Int32) + nI i = nI (40 + i) from nI_add 40 i) ?_
            refine lv_iconst (v := 0) hx hb dX8_sheet_58 (by decide) ?_
            refine va_iast hx hb hK hP hD hS 3 0 rfl rfl (vp_in_nI (show 40 + i < 160 by omega) (by decide)) dX8_sheet_59 (fun H locs hP hD hS => ?_)
            have hE : upd hsz ((nI (40 + i)).toNatClampNeg) 0 = hsz := hs_uz _
            have hP : va_P D vwCl [(mo, .inr (7, [.ref mo_st, .ref mo_at, .ref mo_isKept, .int 0, .int 2, .ref mo_draft, .int 0, .int 2, .int 0, .int (-4), .ref mo_tape, .int 0, .int 0, .int 0, .int 0, .int 0, .int 0, .int 0, .ref mo_row, .int 0, .int 0, .int 0, .int 0, .ref mo_before, .long 0, .long 0, .long 0, .ref mo_lanes, .ref mo_sizes, .ref mo_cells, .int 0, .ref mo_had])), (mo_lanes, .inl (k 0, 4, .inl (upd hsl 1 v))), (mo_sizes, .inl (k 0, 4, .inl (upd hsz 1 n))), (mo_cells, .inl (k 0, 160, .inl (upd hsz ((nI (40 + i)).toNatClampNeg) 0)))] H := hP
            have hD : va_D A [(mo, .inr (7, [.ref mo_st, .ref mo_at, .ref mo_isKept, .int 0, .int 2, .ref mo_draft, .int 0, .int 2, .int 0, .int (-4), .ref mo_tape, .int 0, .int 0, .int 0, .int 0, .int 0, .int 0, .int 0, .ref mo_row, .int 0, .int 0, .int 0, .int 0, .ref mo_before, .long 0, .long 0, .long 0, .ref mo_lanes, .ref mo_sizes, .ref mo_cells, .int 0, .ref mo_had])), (mo_lanes, .inl (k 0, 4, .inl (upd hsl 1 v))), (mo_sizes, .inl (k 0, 4, .inl (upd hsz 1 n))), (mo_cells, .inl (k 0, 160, .inl (upd hsz ((nI (40 + i)).toNatClampNeg) 0)))] := hD
            rw [hE] at hP hD
            refine lv_iinc (v := nI (i + 1)) (lv' := [(4, .int (nI (i + 1))), (0, .ref mo), (1, .int 1), (2, .int v), (3, .int n)]) hx hb dX8_sheet_60 hl (k := 0) rfl (by rw [nI_succ]; rfl) (by decide) rfl (fun ls hl => ?_)
            refine lv_goto (tgt := 40) hx hb dX8_sheet_63 (by decide) ?_
            exact ih _ _ _ hP hD hS (lv_sub hl [0, 1, 2, 3, 4] rfl)
          · intro H locs ls hP hD hS hl
            refine lv_iload hx hb dX8_sheet_40 (lv_at hl 0 rfl) ?_
            refine lv_bipush (v := 40) hx hb dX8_sheet_42 (by decide) ?_
            refine lv_icmp_ge (tgt := 66) hx hb dX8_sheet_44 (by decide) (fun c_12 => ?_) (fun c_12 => absurd (show (40 : Int32) ≤ nI 40 by decide) c_12)
            refine lv_iconst (v := 1) hx hb dX8_sheet_66 (by decide) ?_
            exact hs_iret hx hb hr hlocks hK hP hD hS () [] rfl (by decide) dX8_sheet_67 (by first | rfl | decide | (simp only [hsb_0, hsb_1] at c_4 c_9 c_10 c_12; simp [A_sheet, c_4, c_9, c_10, c_12]; done) | (simp [A_sheet, c_4, c_9, c_10, c_12]; done))
        · refine lv_bipush (v := (-14)) hx hb dX8_sheet_20 (by decide) ?_
          exact hs_iret hx hb hr hlocks hK hP hD hS () [] rfl (by decide) dX8_sheet_22 (by first | rfl | decide | (simp only [hsb_0, hsb_1] at c_4 c_9 c_10; simp [A_sheet, c_4, c_9, c_10]; done) | (simp [A_sheet, c_4, c_9, c_10]; done))
      · refine lv_iconst (v := (-1)) hx hb dX8_sheet_14 (by decide) ?_
        exact hs_iret hx hb hr hlocks hK hP hD hS () [] rfl (by decide) dX8_sheet_15 (by first | rfl | decide | (simp only [hsb_0, hsb_1] at c_4 c_9; simp [A_sheet, c_4, c_9]; done) | (simp [A_sheet, c_4, c_9]; done))
    · refine lv_iload_n hx hb dX8_sheet_8 rfl (lv_at hl 3 rfl) ?_
      refine lv_bipush (v := 40) hx hb dX8_sheet_9 (by decide) ?_
      refine lv_icmp_le (tgt := 16) hx hb dX8_sheet_11 (by decide) (fun c_13 => ?_) (fun c_13 => ?_)
      · refine lv_iload_n hx hb dX8_sheet_16 rfl (lv_at hl 3 rfl) ?_
        refine lv_if_ge (tgt := 23) hx hb dX8_sheet_17 (by decide) (fun c_14 => ?_) (fun c_14 => ?_)
        · refine lv_aload_n hx hb dX8_sheet_23 rfl (lv_at hl 0 rfl) ?_
          refine va_get (D := D) (ci := 7) (v := .ref mo_lanes) (C := RX8) (T := TX8) (N := 32) hx hb hts hiX8 hown hK hP 0 rfl rfl 27 (by decide) fl32 (fun _ h9 => h9) rfl dX8_sheet_24 ?_
          refine lv_iload_n hx hb dX8_sheet_27 rfl (lv_at hl 1 rfl) ?_
          refine lv_iload_n hx hb dX8_sheet_28 rfl (lv_at hl 2 rfl) ?_
          refine va_iast hx hb hK hP hD hS 1 0 rfl rfl (hs_in (by decide)) dX8_sheet_29 (fun H locs hP hD hS => ?_)
          have hP : va_P D vwCl [(mo, .inr (7, [.ref mo_st, .ref mo_at, .ref mo_isKept, .int 0, .int 2, .ref mo_draft, .int 0, .int 2, .int 0, .int (-4), .ref mo_tape, .int 0, .int 0, .int 0, .int 0, .int 0, .int 0, .int 0, .ref mo_row, .int 0, .int 0, .int 0, .int 0, .ref mo_before, .long 0, .long 0, .long 0, .ref mo_lanes, .ref mo_sizes, .ref mo_cells, .int 0, .ref mo_had])), (mo_lanes, .inl (k 0, 4, .inl (upd hsl 2 v))), (mo_sizes, .inl (k 0, 4, .inl (hsz))), (mo_cells, .inl (k 0, 160, .inl (hsz)))] H := hP
          have hD : va_D A [(mo, .inr (7, [.ref mo_st, .ref mo_at, .ref mo_isKept, .int 0, .int 2, .ref mo_draft, .int 0, .int 2, .int 0, .int (-4), .ref mo_tape, .int 0, .int 0, .int 0, .int 0, .int 0, .int 0, .int 0, .ref mo_row, .int 0, .int 0, .int 0, .int 0, .ref mo_before, .long 0, .long 0, .long 0, .ref mo_lanes, .ref mo_sizes, .ref mo_cells, .int 0, .ref mo_had])), (mo_lanes, .inl (k 0, 4, .inl (upd hsl 2 v))), (mo_sizes, .inl (k 0, 4, .inl (hsz))), (mo_cells, .inl (k 0, 160, .inl (hsz)))] := hD
          refine lv_aload_n hx hb dX8_sheet_30 rfl (lv_at hl 0 rfl) ?_
          refine va_get (D := D) (ci := 7) (v := .ref mo_sizes) (C := RX8) (T := TX8) (N := 32) hx hb hts hiX8 hown hK hP 0 rfl rfl 28 (by decide) fl35 (fun _ h9 => h9) rfl dX8_sheet_31 ?_
          refine lv_iload_n hx hb dX8_sheet_34 rfl (lv_at hl 1 rfl) ?_
          refine lv_iload_n hx hb dX8_sheet_35 rfl (lv_at hl 3 rfl) ?_
          refine va_iast hx hb hK hP hD hS 2 0 rfl rfl (hs_in (by decide)) dX8_sheet_36 (fun H locs hP hD hS => ?_)
          have hP : va_P D vwCl [(mo, .inr (7, [.ref mo_st, .ref mo_at, .ref mo_isKept, .int 0, .int 2, .ref mo_draft, .int 0, .int 2, .int 0, .int (-4), .ref mo_tape, .int 0, .int 0, .int 0, .int 0, .int 0, .int 0, .int 0, .ref mo_row, .int 0, .int 0, .int 0, .int 0, .ref mo_before, .long 0, .long 0, .long 0, .ref mo_lanes, .ref mo_sizes, .ref mo_cells, .int 0, .ref mo_had])), (mo_lanes, .inl (k 0, 4, .inl (upd hsl 2 v))), (mo_sizes, .inl (k 0, 4, .inl (upd hsz 2 n))), (mo_cells, .inl (k 0, 160, .inl (hsz)))] H := hP
          have hD : va_D A [(mo, .inr (7, [.ref mo_st, .ref mo_at, .ref mo_isKept, .int 0, .int 2, .ref mo_draft, .int 0, .int 2, .int 0, .int (-4), .ref mo_tape, .int 0, .int 0, .int 0, .int 0, .int 0, .int 0, .int 0, .ref mo_row, .int 0, .int 0, .int 0, .int 0, .ref mo_before, .long 0, .long 0, .long 0, .ref mo_lanes, .ref mo_sizes, .ref mo_cells, .int 0, .ref mo_had])), (mo_lanes, .inl (k 0, 4, .inl (upd hsl 2 v))), (mo_sizes, .inl (k 0, 4, .inl (upd hsz 2 n))), (mo_cells, .inl (k 0, 160, .inl (hsz)))] := hD
          refine lv_iconst (v := 0) hx hb dX8_sheet_37 (by decide) ?_
          refine lv_istore (lv' := [(4, .int 0), (0, .ref mo), (1, .int 2), (2, .int v), (3, .int n)]) hx hb dX8_sheet_38 hl (by decide) rfl (fun ls hl => ?_)
          refine hs_for 40 (fun i => [(mo, .inr (7, [.ref mo_st, .ref mo_at, .ref mo_isKept, .int 0, .int 2, .ref mo_draft, .int 0, .int 2, .int 0, .int (-4), .ref mo_tape, .int 0, .int 0, .int 0, .int 0, .int 0, .int 0, .int 0, .ref mo_row, .int 0, .int 0, .int 0, .int 0, .ref mo_before, .long 0, .long 0, .long 0, .ref mo_lanes, .ref mo_sizes, .ref mo_cells, .int 0, .ref mo_had])), (mo_lanes, .inl (k 0, 4, .inl (upd hsl 2 v))), (mo_sizes, .inl (k 0, 4, .inl (upd hsz 2 n))), (mo_cells, .inl (k 0, 160, .inl (hsz)))]) (fun i => [(4, .int (nI i)), (0, .ref mo), (1, .int 2), (2, .int v), (3, .int n)]) ?_ ?_ hP hD hS hl
          · intro i hi ih H locs ls hP hD hS hl
            refine lv_iload hx hb dX8_sheet_40 (lv_at hl 0 rfl) ?_
            refine lv_bipush (v := 40) hx hb dX8_sheet_42 (by decide) ?_
            refine lv_icmp_ge (tgt := 66) hx hb dX8_sheet_44 (by decide) (fun c_15 => absurd c_15 (nI_ge (show i < 40 by omega) (by decide))) (fun c_15 => ?_)
            refine lv_aload_n hx hb dX8_sheet_47 rfl (lv_at hl 1 rfl) ?_
            refine va_get (D := D) (ci := 7) (v := .ref mo_cells) (C := RX8) (T := TX8) (N := 32) hx hb hts hiX8 hown hK hP 0 rfl rfl 29 (by decide) fl38 (fun _ h9 => h9) rfl dX8_sheet_48 ?_
            refine lv_bipush (v := 40) hx hb dX8_sheet_51 (by decide) ?_
            refine lv_iload_n hx hb dX8_sheet_53 rfl (lv_at hl 2 rfl) ?_
            refine lv_imul hx hb dX8_sheet_54 ?_
            refine hs_topi 80 (by first | rfl | decide +kernel) ?_
            refine lv_iload hx hb dX8_sheet_55 (lv_at hl 0 rfl) ?_
            refine lv_iadd hx hb dX8_sheet_57 ?_
            refine hs_topi (nI (80 + i)) (show (80 : Int32) + nI i = nI (80 + i) from nI_add 80 i) ?_
            refine lv_iconst (v := 0) hx hb dX8_sheet_58 (by decide) ?_
            refine va_iast hx hb hK hP hD hS 3 0 rfl rfl (vp_in_nI (show 80 + i < 160 by omega) (by decide)) dX8_sheet_59 (fun H locs hP hD hS => ?_)
            have hE : upd hsz ((nI (80 + i)).toNatClampNeg) 0 = hsz := hs_uz _
            have hP : va_P D vwCl [(mo, .inr (7, [.ref mo_st, .ref mo_at, .ref mo_isKept, .int 0, .int 2, .ref mo_draft, .int 0, .int 2, .int 0, .int (-4), .ref mo_tape, .int 0, .int 0, .int 0, .int 0, .int 0, .int 0, .int 0, .ref mo_row, .int 0, .int 0, .int 0, .int 0, .ref mo_before, .long 0, .long 0, .long 0, .ref mo_lanes, .ref mo_sizes, .ref mo_cells, .int 0, .ref mo_had])), (mo_lanes, .inl (k 0, 4, .inl (upd hsl 2 v))), (mo_sizes, .inl (k 0, 4, .inl (upd hsz 2 n))), (mo_cells, .inl (k 0, 160, .inl (upd hsz ((nI (80 + i)).toNatClampNeg) 0)))] H := hP
            have hD : va_D A [(mo, .inr (7, [.ref mo_st, .ref mo_at, .ref mo_isKept, .int 0, .int 2, .ref mo_draft, .int 0, .int 2, .int 0, .int (-4), .ref mo_tape, .int 0, .int 0, .int 0, .int 0, .int 0, .int 0, .int 0, .ref mo_row, .int 0, .int 0, .int 0, .int 0, .ref mo_before, .long 0, .long 0, .long 0, .ref mo_lanes, .ref mo_sizes, .ref mo_cells, .int 0, .ref mo_had])), (mo_lanes, .inl (k 0, 4, .inl (upd hsl 2 v))), (mo_sizes, .inl (k 0, 4, .inl (upd hsz 2 n))), (mo_cells, .inl (k 0, 160, .inl (upd hsz ((nI (80 + i)).toNatClampNeg) 0)))] := hD
            rw [hE] at hP hD
            refine lv_iinc (v := nI (i + 1)) (lv' := [(4, .int (nI (i + 1))), (0, .ref mo), (1, .int 2), (2, .int v), (3, .int n)]) hx hb dX8_sheet_60 hl (k := 0) rfl (by rw [nI_succ]; rfl) (by decide) rfl (fun ls hl => ?_)
            refine lv_goto (tgt := 40) hx hb dX8_sheet_63 (by decide) ?_
            exact ih _ _ _ hP hD hS (lv_sub hl [0, 1, 2, 3, 4] rfl)
          · intro H locs ls hP hD hS hl
            refine lv_iload hx hb dX8_sheet_40 (lv_at hl 0 rfl) ?_
            refine lv_bipush (v := 40) hx hb dX8_sheet_42 (by decide) ?_
            refine lv_icmp_ge (tgt := 66) hx hb dX8_sheet_44 (by decide) (fun c_16 => ?_) (fun c_16 => absurd (show (40 : Int32) ≤ nI 40 by decide) c_16)
            refine lv_iconst (v := 1) hx hb dX8_sheet_66 (by decide) ?_
            exact hs_iret hx hb hr hlocks hK hP hD hS () [] rfl (by decide) dX8_sheet_67 (by first | rfl | decide | (simp only [hsb_0, hsb_1] at c_4 c_13 c_14 c_16; simp [A_sheet, c_4, c_13, c_14, c_16]; done) | (simp [A_sheet, c_4, c_13, c_14, c_16]; done))
        · refine lv_bipush (v := (-14)) hx hb dX8_sheet_20 (by decide) ?_
          exact hs_iret hx hb hr hlocks hK hP hD hS () [] rfl (by decide) dX8_sheet_22 (by first | rfl | decide | (simp only [hsb_0, hsb_1] at c_4 c_13 c_14; simp [A_sheet, c_4, c_13, c_14]; done) | (simp [A_sheet, c_4, c_13, c_14]; done))
      · refine lv_iconst (v := (-1)) hx hb dX8_sheet_14 (by decide) ?_
        exact hs_iret hx hb hr hlocks hK hP hD hS () [] rfl (by decide) dX8_sheet_15 (by first | rfl | decide | (simp only [hsb_0, hsb_1] at c_4 c_13; simp [A_sheet, c_4, c_13]; done) | (simp [A_sheet, c_4, c_13]; done))
    · refine lv_iload_n hx hb dX8_sheet_8 rfl (lv_at hl 3 rfl) ?_
      refine lv_bipush (v := 40) hx hb dX8_sheet_9 (by decide) ?_
      refine lv_icmp_le (tgt := 16) hx hb dX8_sheet_11 (by decide) (fun c_17 => ?_) (fun c_17 => ?_)
      · refine lv_iload_n hx hb dX8_sheet_16 rfl (lv_at hl 3 rfl) ?_
        refine lv_if_ge (tgt := 23) hx hb dX8_sheet_17 (by decide) (fun c_18 => ?_) (fun c_18 => ?_)
        · refine lv_aload_n hx hb dX8_sheet_23 rfl (lv_at hl 0 rfl) ?_
          refine va_get (D := D) (ci := 7) (v := .ref mo_lanes) (C := RX8) (T := TX8) (N := 32) hx hb hts hiX8 hown hK hP 0 rfl rfl 27 (by decide) fl32 (fun _ h9 => h9) rfl dX8_sheet_24 ?_
          refine lv_iload_n hx hb dX8_sheet_27 rfl (lv_at hl 1 rfl) ?_
          refine lv_iload_n hx hb dX8_sheet_28 rfl (lv_at hl 2 rfl) ?_
          refine va_iast hx hb hK hP hD hS 1 0 rfl rfl (hs_in (by decide)) dX8_sheet_29 (fun H locs hP hD hS => ?_)
          have hP : va_P D vwCl [(mo, .inr (7, [.ref mo_st, .ref mo_at, .ref mo_isKept, .int 0, .int 2, .ref mo_draft, .int 0, .int 2, .int 0, .int (-4), .ref mo_tape, .int 0, .int 0, .int 0, .int 0, .int 0, .int 0, .int 0, .ref mo_row, .int 0, .int 0, .int 0, .int 0, .ref mo_before, .long 0, .long 0, .long 0, .ref mo_lanes, .ref mo_sizes, .ref mo_cells, .int 0, .ref mo_had])), (mo_lanes, .inl (k 0, 4, .inl (upd hsl 3 v))), (mo_sizes, .inl (k 0, 4, .inl (hsz))), (mo_cells, .inl (k 0, 160, .inl (hsz)))] H := hP
          have hD : va_D A [(mo, .inr (7, [.ref mo_st, .ref mo_at, .ref mo_isKept, .int 0, .int 2, .ref mo_draft, .int 0, .int 2, .int 0, .int (-4), .ref mo_tape, .int 0, .int 0, .int 0, .int 0, .int 0, .int 0, .int 0, .ref mo_row, .int 0, .int 0, .int 0, .int 0, .ref mo_before, .long 0, .long 0, .long 0, .ref mo_lanes, .ref mo_sizes, .ref mo_cells, .int 0, .ref mo_had])), (mo_lanes, .inl (k 0, 4, .inl (upd hsl 3 v))), (mo_sizes, .inl (k 0, 4, .inl (hsz))), (mo_cells, .inl (k 0, 160, .inl (hsz)))] := hD
          refine lv_aload_n hx hb dX8_sheet_30 rfl (lv_at hl 0 rfl) ?_
          refine va_get (D := D) (ci := 7) (v := .ref mo_sizes) (C := RX8) (T := TX8) (N := 32) hx hb hts hiX8 hown hK hP 0 rfl rfl 28 (by decide) fl35 (fun _ h9 => h9) rfl dX8_sheet_31 ?_
          refine lv_iload_n hx hb dX8_sheet_34 rfl (lv_at hl 1 rfl) ?_
          refine lv_iload_n hx hb dX8_sheet_35 rfl (lv_at hl 3 rfl) ?_
          refine va_iast hx hb hK hP hD hS 2 0 rfl rfl (hs_in (by decide)) dX8_sheet_36 (fun H locs hP hD hS => ?_)
          have hP : va_P D vwCl [(mo, .inr (7, [.ref mo_st, .ref mo_at, .ref mo_isKept, .int 0, .int 2, .ref mo_draft, .int 0, .int 2, .int 0, .int (-4), .ref mo_tape, .int 0, .int 0, .int 0, .int 0, .int 0, .int 0, .int 0, .ref mo_row, .int 0, .int 0, .int 0, .int 0, .ref mo_before, .long 0, .long 0, .long 0, .ref mo_lanes, .ref mo_sizes, .ref mo_cells, .int 0, .ref mo_had])), (mo_lanes, .inl (k 0, 4, .inl (upd hsl 3 v))), (mo_sizes, .inl (k 0, 4, .inl (upd hsz 3 n))), (mo_cells, .inl (k 0, 160, .inl (hsz)))] H := hP
          have hD : va_D A [(mo, .inr (7, [.ref mo_st, .ref mo_at, .ref mo_isKept, .int 0, .int 2, .ref mo_draft, .int 0, .int 2, .int 0, .int (-4), .ref mo_tape, .int 0, .int 0, .int 0, .int 0, .int 0, .int 0, .int 0, .ref mo_row, .int 0, .int 0, .int 0, .int 0, .ref mo_before, .long 0, .long 0, .long 0, .ref mo_lanes, .ref mo_sizes, .ref mo_cells, .int 0, .ref mo_had])), (mo_lanes, .inl (k 0, 4, .inl (upd hsl 3 v))), (mo_sizes, .inl (k 0, 4, .inl (upd hsz 3 n))), (mo_cells, .inl (k 0, 160, .inl (hsz)))] := hD
          refine lv_iconst (v := 0) hx hb dX8_sheet_37 (by decide) ?_
          refine lv_istore (lv' := [(4, .int 0), (0, .ref mo), (1, .int 3), (2, .int v), (3, .int n)]) hx hb dX8_sheet_38 hl (by decide) rfl (fun ls hl => ?_)
          refine hs_for 40 (fun i => [(mo, .inr (7, [.ref mo_st, .ref mo_at, .ref mo_isKept, .int 0, .int 2, .ref mo_draft, .int 0, .int 2, .int 0, .int (-4), .ref mo_tape, .int 0, .int 0, .int 0, .int 0, .int 0, .int 0, .int 0, .ref mo_row, .int 0, .int 0, .int 0, .int 0, .ref mo_before, .long 0, .long 0, .long 0, .ref mo_lanes, .ref mo_sizes, .ref mo_cells, .int 0, .ref mo_had])), (mo_lanes, .inl (k 0, 4, .inl (upd hsl 3 v))), (mo_sizes, .inl (k 0, 4, .inl (upd hsz 3 n))), (mo_cells, .inl (k 0, 160, .inl (hsz)))]) (fun i => [(4, .int (nI i)), (0, .ref mo), (1, .int 3), (2, .int v), (3, .int n)]) ?_ ?_ hP hD hS hl
          · intro i hi ih H locs ls hP hD hS hl
            refine lv_iload hx hb dX8_sheet_40 (lv_at hl 0 rfl) ?_
            refine lv_bipush (v := 40) hx hb dX8_sheet_42 (by decide) ?_
            refine lv_icmp_ge (tgt := 66) hx hb dX8_sheet_44 (by decide) (fun c_19 => absurd c_19 (nI_ge (show i < 40 by omega) (by decide))) (fun c_19 => ?_)
            refine lv_aload_n hx hb dX8_sheet_47 rfl (lv_at hl 1 rfl) ?_
            refine va_get (D := D) (ci := 7) (v := .ref mo_cells) (C := RX8) (T := TX8) (N := 32) hx hb hts hiX8 hown hK hP 0 rfl rfl 29 (by decide) fl38 (fun _ h9 => h9) rfl dX8_sheet_48 ?_
            refine lv_bipush (v := 40) hx hb dX8_sheet_51 (by decide) ?_
            refine lv_iload_n hx hb dX8_sheet_53 rfl (lv_at hl 2 rfl) ?_
            refine lv_imul hx hb dX8_sheet_54 ?_
            refine hs_topi 120 (by first | rfl | decide +kernel) ?_
            refine lv_iload hx hb dX8_sheet_55 (lv_at hl 0 rfl) ?_
            refine lv_iadd hx hb dX8_sheet_57 ?_
            refine hs_topi (nI (120 + i)) (show (120 : Int32) + nI i = nI (120 + i) from nI_add 120 i) ?_
            refine lv_iconst (v := 0) hx hb dX8_sheet_58 (by decide) ?_
            refine va_iast hx hb hK hP hD hS 3 0 rfl rfl (vp_in_nI (show 120 + i < 160 by omega) (by decide)) dX8_sheet_59 (fun H locs hP hD hS => ?_)
            have hE : upd hsz ((nI (120 + i)).toNatClampNeg) 0 = hsz := hs_uz _
            have hP : va_P D vwCl [(mo, .inr (7, [.ref mo_st, .ref mo_at, .ref mo_isKept, .int 0, .int 2, .ref mo_draft, .int 0, .int 2, .int 0, .int (-4), .ref mo_tape, .int 0, .int 0, .int 0, .int 0, .int 0, .int 0, .int 0, .ref mo_row, .int 0, .int 0, .int 0, .int 0, .ref mo_before, .long 0, .long 0, .long 0, .ref mo_lanes, .ref mo_sizes, .ref mo_cells, .int 0, .ref mo_had])), (mo_lanes, .inl (k 0, 4, .inl (upd hsl 3 v))), (mo_sizes, .inl (k 0, 4, .inl (upd hsz 3 n))), (mo_cells, .inl (k 0, 160, .inl (upd hsz ((nI (120 + i)).toNatClampNeg) 0)))] H := hP
            have hD : va_D A [(mo, .inr (7, [.ref mo_st, .ref mo_at, .ref mo_isKept, .int 0, .int 2, .ref mo_draft, .int 0, .int 2, .int 0, .int (-4), .ref mo_tape, .int 0, .int 0, .int 0, .int 0, .int 0, .int 0, .int 0, .ref mo_row, .int 0, .int 0, .int 0, .int 0, .ref mo_before, .long 0, .long 0, .long 0, .ref mo_lanes, .ref mo_sizes, .ref mo_cells, .int 0, .ref mo_had])), (mo_lanes, .inl (k 0, 4, .inl (upd hsl 3 v))), (mo_sizes, .inl (k 0, 4, .inl (upd hsz 3 n))), (mo_cells, .inl (k 0, 160, .inl (upd hsz ((nI (120 + i)).toNatClampNeg) 0)))] := hD
            rw [hE] at hP hD
            refine lv_iinc (v := nI (i + 1)) (lv' := [(4, .int (nI (i + 1))), (0, .ref mo), (1, .int 3), (2, .int v), (3, .int n)]) hx hb dX8_sheet_60 hl (k := 0) rfl (by rw [nI_succ]; rfl) (by decide) rfl (fun ls hl => ?_)
            refine lv_goto (tgt := 40) hx hb dX8_sheet_63 (by decide) ?_
            exact ih _ _ _ hP hD hS (lv_sub hl [0, 1, 2, 3, 4] rfl)
          · intro H locs ls hP hD hS hl
            refine lv_iload hx hb dX8_sheet_40 (lv_at hl 0 rfl) ?_
            refine lv_bipush (v := 40) hx hb dX8_sheet_42 (by decide) ?_
            refine lv_icmp_ge (tgt := 66) hx hb dX8_sheet_44 (by decide) (fun c_20 => ?_) (fun c_20 => absurd (show (40 : Int32) ≤ nI 40 by decide) c_20)
            refine lv_iconst (v := 1) hx hb dX8_sheet_66 (by decide) ?_
            exact hs_iret hx hb hr hlocks hK hP hD hS () [] rfl (by decide) dX8_sheet_67 (by first | rfl | decide | (simp only [hsb_0, hsb_1] at c_4 c_17 c_18 c_20; simp [A_sheet, c_4, c_17, c_18, c_20]; done) | (simp [A_sheet, c_4, c_17, c_18, c_20]; done))
        · refine lv_bipush (v := (-14)) hx hb dX8_sheet_20 (by decide) ?_
          exact hs_iret hx hb hr hlocks hK hP hD hS () [] rfl (by decide) dX8_sheet_22 (by first | rfl | decide | (simp only [hsb_0, hsb_1] at c_4 c_17 c_18; simp [A_sheet, c_4, c_17, c_18]; done) | (simp [A_sheet, c_4, c_17, c_18]; done))
      · refine lv_iconst (v := (-1)) hx hb dX8_sheet_14 (by decide) ?_
        exact hs_iret hx hb hr hlocks hK hP hD hS () [] rfl (by decide) dX8_sheet_15 (by first | rfl | decide | (simp only [hsb_0, hsb_1] at c_4 c_17; simp [A_sheet, c_4, c_17]; done) | (simp [A_sheet, c_4, c_17]; done))

set_option maxHeartbeats 4000000 in
set_option maxRecDepth 100000 in
theorem q_lay (l : Launch) (D : va_G) (k : Nat → ClassId) (sz : Nat) (mo : Nat) (mo_st : Nat) (mo_at : Nat) (mo_isKept : Nat) (mo_draft : Nat) (mo_tape : Nat) (mo_row : Nat) (mo_before : Nat) (mo_lanes : Nat) (mo_sizes : Nat) (mo_cells : Nat) (mo_had : Nat) (i : Int32) (v : Int32) (n : Int32)  : MI l yX8_lay wsX8_lay ({ frames := 2, cells := 0, slots := 0, locals := 46 }) D k [.ref mo, .int i, .int v, .int n] [(mo, .inr (7, [.ref mo_st, .ref mo_at, .ref mo_isKept, .int 0, .int 2, .ref mo_draft, .int 0, .int 2, .int 0, .int (-4), .ref mo_tape, .int 0, .int 0, .int 0, .int 0, .int 0, .int 0, .int 0, .ref mo_row, .int 0, .int 0, .int 0, .int 0, .ref mo_before, .long 0, .long 0, .long 0, .ref mo_lanes, .ref mo_sizes, .ref mo_cells, .int 0, .ref mo_had])), (mo_lanes, .inl (k 0, 4, .inl (hsl)))] sz (fun (r : Int32) (u : Unit) => r = A_lay i v n) (fun (u : Unit) => []) := by
  refine Met.ofW (cc := cX8_lay) (maxL := 4) (ret := (some .int)) (by decide) rfl ?_
  intro p e s m args below meth c s₁ B hml hv
  obtain ⟨rfl, hsz, hP, hK, hD0, hN⟩ := hv
  have hx := B.exec
  have hb := B.bytes
  have hr := B.returns
  have hlocks := B.notSynchronized
  have hts := atoms_spec (ws := wsX8_lay) B.pre
  have hown : s.vm.findClass RX8 = some m.cls := findClass_of_methodNamed B.named
  have hiX8 : ∀ w ∈ u_ws RX8 TX8 32, w ∈ wsX8_lay := by decide +kernel
  have fl32 := hts (.fieldLink RX8 32 "HalfScalesModel" "lanes" "[I") (by decide +kernel)
  subst hsz
  have hD := hD0.self (sz := s.heap.size)
  generalize hAe : va_A [(mo, .inr (7, [.ref mo_st, .ref mo_at, .ref mo_isKept, .int 0, .int 2, .ref mo_draft, .int 0, .int 2, .int 0, .int (-4), .ref mo_tape, .int 0, .int 0, .int 0, .int 0, .int 0, .int 0, .int 0, .ref mo_row, .int 0, .int 0, .int 0, .int 0, .ref mo_before, .long 0, .long 0, .long 0, .ref mo_lanes, .ref mo_sizes, .ref mo_cells, .int 0, .ref mo_had])), (mo_lanes, .inl (k 0, 4, .inl (hsl)))] s.heap.size = A at hD ⊢
  have hA : ∀ q : Nat, s.heap.size ≤ q → A q := fun q h => by rw [← hAe]; exact Or.inr h
  have hS : va_S A s.heap s.heap [] := va_S.rf
  have hl := lv_entry ([.ref mo, .int i, .int v, .int n]) (n := 4) (Nat.le_of_ble_eq_true rfl)
  rw [lg_entry_eq]
  generalize (lg_sl ([.ref mo, .int i, .int v, .int n]) ++ List.replicate (4 - (lg_sl ([.ref mo, .int i, .int v, .int n])).length) Slot.unset).toArray = ls at hl ⊢
  have hl : lv_has ls 4 [(0, .ref mo), (1, .int i), (2, .int v), (3, .int n)] := hl
  have hP : va_P D vwCl [(mo, .inr (7, [.ref mo_st, .ref mo_at, .ref mo_isKept, .int 0, .int 2, .ref mo_draft, .int 0, .int 2, .int 0, .int (-4), .ref mo_tape, .int 0, .int 0, .int 0, .int 0, .int 0, .int 0, .int 0, .ref mo_row, .int 0, .int 0, .int 0, .int 0, .ref mo_before, .long 0, .long 0, .long 0, .ref mo_lanes, .ref mo_sizes, .ref mo_cells, .int 0, .ref mo_had])), (mo_lanes, .inl (k 0, 4, .inl (hsl)))] s.heap := hP
  refine lv_iload_n hx hb dX8_lay_0 rfl (lv_at hl 1 rfl) ?_
  refine lv_iconst (v := 0) hx hb dX8_lay_1 (by decide) ?_
  refine hs_pi (va_runS (As := [.int i, .int 0]) (rest := []) ⟨hx, hb, hml, hown, hts⟩ (m_isSheet0 l D k _ i) (va_cwS 2 hts gX8_lay_X8_isSheet rfl rfl rfl (by decide +kernel) ⟨Nat.le_of_ble_eq_true rfl, Nat.le_of_ble_eq_true rfl⟩) (hs_preS hK hN (hs_subP (w := []) hP [] rfl) (hD.sub (ws' := []) [] (by decide) rfl)) rfl rfl hl.1 rfl (lv_room (Nat.le_of_ble_eq_true rfl)) dX8_lay_2 ⟨Nat.le_of_ble_eq_true rfl, Nat.le_of_ble_eq_true rfl⟩) hP hD hS hA (fun r_1 u_3 H locs hw_2 hP hS => ?_)
  refine hs_topi (hsb (hsin i 0 3)) hw_2 ?_
  refine lv_if_ne (tgt := 10) hx hb dX8_lay_5 (by decide) (fun c_4 => ?_) (fun c_4 => ?_)
  · rcases hs_v03 (hs_nb c_4) with rfl | rfl | rfl | rfl
    · refine lv_aload_n hx hb dX8_lay_10 rfl (lv_at hl 0 rfl) ?_
      refine va_get (D := D) (ci := 7) (v := .ref mo_lanes) (C := RX8) (T := TX8) (N := 32) hx hb hts hiX8 hown hK hP 0 rfl rfl 27 (by decide) fl32 (fun _ h9 => h9) rfl dX8_lay_11 ?_
      refine lv_iload_n hx hb dX8_lay_14 rfl (lv_at hl 1 rfl) ?_
      refine va_iald hx hb hK hP 1 0 rfl rfl (hs_in (by decide)) dX8_lay_15 ?_
      refine hs_topi (-4) (by first | rfl | decide +kernel) ?_
      refine lv_bipush (v := (-4)) hx hb dX8_lay_16 (by decide) ?_
      refine lv_icmp_ne (tgt := 24) hx hb dX8_lay_18 (by decide) (fun c_5 => absurd c_5 (by decide)) (fun c_5 => ?_)
      refine lv_bipush (v := (-11)) hx hb dX8_lay_21 (by decide) ?_
      exact hs_iret hx hb hr hlocks hK hP hD hS () [] rfl (by decide) dX8_lay_23 (by first | rfl | decide | (simp only [hsb_0, hsb_1] at c_4 c_5; simp [A_lay, c_4, c_5]; done) | (simp [A_lay, c_4, c_5]; done))
    · refine lv_aload_n hx hb dX8_lay_10 rfl (lv_at hl 0 rfl) ?_
      refine va_get (D := D) (ci := 7) (v := .ref mo_lanes) (C := RX8) (T := TX8) (N := 32) hx hb hts hiX8 hown hK hP 0 rfl rfl 27 (by decide) fl32 (fun _ h9 => h9) rfl dX8_lay_11 ?_
      refine lv_iload_n hx hb dX8_lay_14 rfl (lv_at hl 1 rfl) ?_
      refine va_iald hx hb hK hP 1 0 rfl rfl (hs_in (by decide)) dX8_lay_15 ?_
      refine hs_topi (-4) (by first | rfl | decide +kernel) ?_
      refine lv_bipush (v := (-4)) hx hb dX8_lay_16 (by decide) ?_
      refine lv_icmp_ne (tgt := 24) hx hb dX8_lay_18 (by decide) (fun c_6 => absurd c_6 (by decide)) (fun c_6 => ?_)
      refine lv_bipush (v := (-11)) hx hb dX8_lay_21 (by decide) ?_
      exact hs_iret hx hb hr hlocks hK hP hD hS () [] rfl (by decide) dX8_lay_23 (by first | rfl | decide | (simp only [hsb_0, hsb_1] at c_4 c_6; simp [A_lay, c_4, c_6]; done) | (simp [A_lay, c_4, c_6]; done))
    · refine lv_aload_n hx hb dX8_lay_10 rfl (lv_at hl 0 rfl) ?_
      refine va_get (D := D) (ci := 7) (v := .ref mo_lanes) (C := RX8) (T := TX8) (N := 32) hx hb hts hiX8 hown hK hP 0 rfl rfl 27 (by decide) fl32 (fun _ h9 => h9) rfl dX8_lay_11 ?_
      refine lv_iload_n hx hb dX8_lay_14 rfl (lv_at hl 1 rfl) ?_
      refine va_iald hx hb hK hP 1 0 rfl rfl (hs_in (by decide)) dX8_lay_15 ?_
      refine hs_topi (-4) (by first | rfl | decide +kernel) ?_
      refine lv_bipush (v := (-4)) hx hb dX8_lay_16 (by decide) ?_
      refine lv_icmp_ne (tgt := 24) hx hb dX8_lay_18 (by decide) (fun c_7 => absurd c_7 (by decide)) (fun c_7 => ?_)
      refine lv_bipush (v := (-11)) hx hb dX8_lay_21 (by decide) ?_
      exact hs_iret hx hb hr hlocks hK hP hD hS () [] rfl (by decide) dX8_lay_23 (by first | rfl | decide | (simp only [hsb_0, hsb_1] at c_4 c_7; simp [A_lay, c_4, c_7]; done) | (simp [A_lay, c_4, c_7]; done))
    · refine lv_aload_n hx hb dX8_lay_10 rfl (lv_at hl 0 rfl) ?_
      refine va_get (D := D) (ci := 7) (v := .ref mo_lanes) (C := RX8) (T := TX8) (N := 32) hx hb hts hiX8 hown hK hP 0 rfl rfl 27 (by decide) fl32 (fun _ h9 => h9) rfl dX8_lay_11 ?_
      refine lv_iload_n hx hb dX8_lay_14 rfl (lv_at hl 1 rfl) ?_
      refine va_iald hx hb hK hP 1 0 rfl rfl (hs_in (by decide)) dX8_lay_15 ?_
      refine hs_topi (-4) (by first | rfl | decide +kernel) ?_
      refine lv_bipush (v := (-4)) hx hb dX8_lay_16 (by decide) ?_
      refine lv_icmp_ne (tgt := 24) hx hb dX8_lay_18 (by decide) (fun c_8 => absurd c_8 (by decide)) (fun c_8 => ?_)
      refine lv_bipush (v := (-11)) hx hb dX8_lay_21 (by decide) ?_
      exact hs_iret hx hb hr hlocks hK hP hD hS () [] rfl (by decide) dX8_lay_23 (by first | rfl | decide | (simp only [hsb_0, hsb_1] at c_4 c_8; simp [A_lay, c_4, c_8]; done) | (simp [A_lay, c_4, c_8]; done))
  · refine lv_iconst (v := (-1)) hx hb dX8_lay_8 (by decide) ?_
    exact hs_iret hx hb hr hlocks hK hP hD hS () [] rfl (by decide) dX8_lay_9 (by first | rfl | decide | (simp only [hsb_0, hsb_1] at c_4; simp [A_lay, c_4]; done) | (simp [A_lay, c_4]; done))
