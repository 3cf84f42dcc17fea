set_option maxHeartbeats 4000000 in
set_option maxRecDepth 100000 in
theorem m_in (l : Launch) (D : va_G) (k : Nat → ClassId) (sz : Nat) (v : Int32) (lo : Int32) (hi : Int32)  : MI l yX8_in wsX8_in ({ frames := 0, cells := 0, slots := 0, locals := 0 }) D k [.long (((v) : Int32).toInt64), .long (((lo) : Int32).toInt64), .long (((hi) : Int32).toInt64)] [] sz (fun (r : Int32) (u : Unit) => r = hsb (hsin v lo hi)) (fun (u : Unit) => []) := by
  refine Met.ofW (cc := cX8_in) (maxL := 6) (ret := (some .boolean)) (by decide) rfl ?_
  intro p e s m args below meth c s₁ B hml hv
  obtain ⟨rfl, hsz, hP, hK, hD0, hN⟩ := hv
  have hx := B.exec
  have hb := B.bytes
  have hr := B.returns
  have hlocks := B.notSynchronized
  have hts := atoms_spec (ws := wsX8_in) B.pre
  have hown : s.vm.findClass RX8 = some m.cls := findClass_of_methodNamed B.named
  subst hsz
  have hD := hD0.self (sz := s.heap.size)
  generalize hAe : va_A [] s.heap.size = A at hD ⊢
  have hA : ∀ q : Nat, s.heap.size ≤ q → A q := fun q h => by rw [← hAe]; exact Or.inr h
  have hS : va_S A s.heap s.heap [] := va_S.rf
  have hl := lv_entry ([.long (((v) : Int32).toInt64), .long (((lo) : Int32).toInt64), .long (((hi) : Int32).toInt64)]) (n := 6) (Nat.le_of_ble_eq_true rfl)
  rw [lg_entry_eq]
  generalize (lg_sl ([.long (((v) : Int32).toInt64), .long (((lo) : Int32).toInt64), .long (((hi) : Int32).toInt64)]) ++ List.replicate (6 - (lg_sl ([.long (((v) : Int32).toInt64), .long (((lo) : Int32).toInt64), .long (((hi) : Int32).toInt64)])).length) Slot.unset).toArray = ls at hl ⊢
  have hl : lv_has ls 6 [(0, .long (((v) : Int32).toInt64)), (2, .long (((lo) : Int32).toInt64)), (4, .long (((hi) : Int32).toInt64))] := hl
  have hP : va_P D vwCl [] s.heap := hP
  refine lv_lload_n hx hb dX8_in_0 rfl (lv_at hl 0 rfl) ?_
  refine lv_lload_n hx hb dX8_in_1 rfl (lv_at hl 1 rfl) ?_
  refine W.lcmp hx hb dX8_in_2 ?_
  refine lv_if_lt (tgt := 17) hx hb dX8_in_3 (by decide) (fun c_1 => ?_) (fun c_1 => ?_)
  · refine lv_iconst (v := 0) hx hb dX8_in_17 (by decide) ?_
    exact hs_zret hx hb hr hlocks hK hP hD hS () [] rfl (by decide) dX8_in_18 rfl (hsinL_f1 c_1)
  · refine lv_lload_n hx hb dX8_in_6 rfl (lv_at hl 0 rfl) ?_
    refine lv_lload hx hb dX8_in_7 (lv_at hl 2 rfl) ?_
    refine W.lcmp hx hb dX8_in_9 ?_
    refine lv_if_gt (tgt := 17) hx hb dX8_in_10 (by decide) (fun c_2 => ?_) (fun c_2 => ?_)
    · refine lv_iconst (v := 0) hx hb dX8_in_17 (by decide) ?_
      exact hs_zret hx hb hr hlocks hK hP hD hS () [] rfl (by decide) dX8_in_18 rfl (hsinL_f2 c_2)
    · refine lv_iconst (v := 1) hx hb dX8_in_13 (by decide) ?_
      refine lv_goto (tgt := 18) hx hb dX8_in_14 (by decide) ?_
      exact hs_zret hx hb hr hlocks hK hP hD hS () [] rfl (by decide) dX8_in_18 rfl (hsinL_t c_1 c_2)

set_option maxHeartbeats 4000000 in
set_option maxRecDepth 100000 in
theorem m_flag0 (l : Launch) (D : va_G) (k : Nat → ClassId) (sz : Nat)   : MI l yX8_flag wsX8_flag ({ frames := 0, cells := 0, slots := 0, locals := 0 }) D k [.int 0] [] sz (fun (r : Int32) (u : Unit) => r = 0) (fun (u : Unit) => []) := by
  refine Met.ofW (cc := cX8_flag) (maxL := 1) (ret := (some .int)) (by decide) rfl ?_
  intro p e s m args below meth c s₁ B hml hv
  obtain ⟨rfl, hsz, hP, hK, hD0, hN⟩ := hv
  have hx := B.exec
  have hb := B.bytes
  have hr := B.returns
  have hlocks := B.notSynchronized
  have hts := atoms_spec (ws := wsX8_flag) B.pre
  have hown : s.vm.findClass RX8 = some m.cls := findClass_of_methodNamed B.named
  subst hsz
  have hD := hD0.self (sz := s.heap.size)
  generalize hAe : va_A [] s.heap.size = A at hD ⊢
  have hA : ∀ q : Nat, s.heap.size ≤ q → A q := fun q h => by rw [← hAe]; exact Or.inr h
  have hS : va_S A s.heap s.heap [] := va_S.rf
  have hl := lv_entry ([.int 0]) (n := 1) (Nat.le_of_ble_eq_true rfl)
  rw [lg_entry_eq]
  generalize (lg_sl ([.int 0]) ++ List.replicate (1 - (lg_sl ([.int 0])).length) Slot.unset).toArray = ls at hl ⊢
  have hl : lv_has ls 1 [(0, .int 0)] := hl
  have hP : va_P D vwCl [] s.heap := hP
  refine lv_iload_n hx hb dX8_flag_0 rfl (lv_at hl 0 rfl) ?_
  refine lv_if_eq (tgt := 8) hx hb dX8_flag_1 (by decide) (fun c_1 => ?_) (fun c_1 => absurd c_1 (by decide))
  refine lv_iconst (v := 0) hx hb dX8_flag_8 (by decide) ?_
  exact hs_iret hx hb hr hlocks hK hP hD hS () [] rfl (by decide) dX8_flag_9 (rfl)

set_option maxHeartbeats 4000000 in
set_option maxRecDepth 100000 in
theorem m_flag1 (l : Launch) (D : va_G) (k : Nat → ClassId) (sz : Nat)   : MI l yX8_flag wsX8_flag ({ frames := 0, cells := 0, slots := 0, locals := 0 }) D k [.int 1] [] sz (fun (r : Int32) (u : Unit) => r = 1) (fun (u : Unit) => []) := by
  refine Met.ofW (cc := cX8_flag) (maxL := 1) (ret := (some .int)) (by decide) rfl ?_
  intro p e s m args below meth c s₁ B hml hv
  obtain ⟨rfl, hsz, hP, hK, hD0, hN⟩ := hv
  have hx := B.exec
  have hb := B.bytes
  have hr := B.returns
  have hlocks := B.notSynchronized
  have hts := atoms_spec (ws := wsX8_flag) B.pre
  have hown : s.vm.findClass RX8 = some m.cls := findClass_of_methodNamed B.named
  subst hsz
  have hD := hD0.self (sz := s.heap.size)
  generalize hAe : va_A [] s.heap.size = A at hD ⊢
  have hA : ∀ q : Nat, s.heap.size ≤ q → A q := fun q h => by rw [← hAe]; exact Or.inr h
  have hS : va_S A s.heap s.heap [] := va_S.rf
  have hl := lv_entry ([.int 1]) (n := 1) (Nat.le_of_ble_eq_true rfl)
  rw [lg_entry_eq]
  generalize (lg_sl ([.int 1]) ++ List.replicate (1 - (lg_sl ([.int 1])).length) Slot.unset).toArray = ls at hl ⊢
  have hl : lv_has ls 1 [(0, .int 1)] := hl
  have hP : va_P D vwCl [] s.heap := hP
  refine lv_iload_n hx hb dX8_flag_0 rfl (lv_at hl 0 rfl) ?_
  refine lv_if_eq (tgt := 8) hx hb dX8_flag_1 (by decide) (fun c_1 => absurd c_1 (by decide)) (fun c_1 => ?_)
  refine lv_iconst (v := 1) hx hb dX8_flag_4 (by decide) ?_
  refine lv_goto (tgt := 9) hx hb dX8_flag_5 (by decide) ?_
  exact hs_iret hx hb hr hlocks hK hP hD hS () [] rfl (by decide) dX8_flag_9 (rfl)

set_option maxHeartbeats 4000000 in
set_option maxRecDepth 100000 in
theorem m_isPart (l : Launch) (D : va_G) (k : Nat → ClassId) (sz : Nat) (v : Int32)  : MI l yX8_isPart wsX8_isPart ({ frames := 1, cells := 0, slots := 0, locals := 25 }) D k [.int v] [] sz (fun (r : Int32) (u : Unit) => r = hsb (hsin v 0 1)) (fun (u : Unit) => []) := by
  refine Met.ofW (cc := cX8_isPart) (maxL := 1) (ret := (some .boolean)) (by decide) rfl ?_
  intro p e s m args below meth c s₁ B hml hv
  obtain ⟨rfl, hsz, hP, hK, hD0, hN⟩ := hv
  have hx := B.exec
  have hb := B.bytes
  have hr := B.returns
  have hlocks := B.notSynchronized
  have hts := atoms_spec (ws := wsX8_isPart) B.pre
  have hown : s.vm.findClass RX8 = some m.cls := findClass_of_methodNamed B.named
  subst hsz
  have hD := hD0.self (sz := s.heap.size)
  generalize hAe : va_A [] s.heap.size = A at hD ⊢
  have hA : ∀ q : Nat, s.heap.size ≤ q → A q := fun q h => by rw [← hAe]; exact Or.inr h
  have hS : va_S A s.heap s.heap [] := va_S.rf
  have hl := lv_entry ([.int v]) (n := 1) (Nat.le_of_ble_eq_true rfl)
  rw [lg_entry_eq]
  generalize (lg_sl ([.int v]) ++ List.replicate (1 - (lg_sl ([.int v])).length) Slot.unset).toArray = ls at hl ⊢
  have hl : lv_has ls 1 [(0, .int v)] := hl
  have hP : va_P D vwCl [] s.heap := hP
  refine lv_iload_n hx hb dX8_isPart_0 rfl (lv_at hl 0 rfl) ?_
  refine lv_i2l hx hb dX8_isPart_1 rfl ?_
  refine lv_lconst (v := 0) hx hb dX8_isPart_2 (by decide) ?_
  refine lv_lconst (v := 1) hx hb dX8_isPart_3 (by decide) ?_
  refine hs_pi (va_runS (As := [.long (((v) : Int32).toInt64), .long 0, .long 1]) (rest := []) ⟨hx, hb, hml, hown, hts⟩ (m_in l D k _ v 0 1) (va_cwS 3 hts gX8_isPart_X8_in rfl rfl rfl (by decide +kernel) ⟨Nat.le_of_ble_eq_true rfl, Nat.le_of_ble_eq_true rfl⟩) (hs_preS hK hN (hs_subP (w := []) hP [] rfl) (hD.sub (ws' := []) [] (by decide) rfl)) rfl rfl hl.1 rfl (lv_room (Nat.le_of_ble_eq_true rfl)) dX8_isPart_4 ⟨Nat.le_of_ble_eq_true rfl, Nat.le_of_ble_eq_true rfl⟩) hP hD hS hA (fun r_1 u_3 H locs hw_2 hP hS => ?_)
  refine hs_topi (hsb (hsin v 0 1)) hw_2 ?_
  exact hs_zret hx hb hr hlocks hK hP hD hS () [] rfl (by decide) dX8_isPart_7 (hsb_n _) (rfl)

set_option maxHeartbeats 4000000 in
set_option maxRecDepth 100000 in
theorem m_isSheet (l : Launch) (D : va_G) (k : Nat → ClassId) (sz : Nat) (i : Int32) (v : Int32)  : MI l yX8_isSheet wsX8_isSheet ({ frames := 1, cells := 0, slots := 0, locals := 25 }) D k [.int i, .int v] [] sz (fun (r : Int32) (u : Unit) => r = hsb (hsin i 0 3 && hsin v 0 2)) (fun (u : Unit) => []) := by
  refine Met.ofW (cc := cX8_isSheet) (maxL := 2) (ret := (some .boolean)) (by decide) rfl ?_
  intro p e s m args below meth c s₁ B hml hv
  obtain ⟨rfl, hsz, hP, hK, hD0, hN⟩ := hv
  have hx := B.exec
  have hb := B.bytes
  have hr := B.returns
  have hlocks := B.notSynchronized
  have hts := atoms_spec (ws := wsX8_isSheet) B.pre
  have hown : s.vm.findClass RX8 = some m.cls := findClass_of_methodNamed B.named
  have kl195 := hts (.constantLong RX8 195 (3)) (by decide +kernel)
  have kl197 := hts (.constantLong RX8 197 (2)) (by decide +kernel)
  subst hsz
  have hD := hD0.self (sz := s.heap.size)
  generalize hAe : va_A [] s.heap.size = A at hD ⊢
  have hA : ∀ q : Nat, s.heap.size ≤ q → A q := fun q h => by rw [← hAe]; exact Or.inr h
  have hS : va_S A s.heap s.heap [] := va_S.rf
  have hl := lv_entry ([.int i, .int v]) (n := 2) (Nat.le_of_ble_eq_true rfl)
  rw [lg_entry_eq]
  generalize (lg_sl ([.int i, .int v]) ++ List.replicate (2 - (lg_sl ([.int i, .int v])).length) Slot.unset).toArray = ls at hl ⊢
  have hl : lv_has ls 2 [(0, .int i), (1, .int v)] := hl
  have hP : va_P D vwCl [] s.heap := hP
  refine lv_iload_n hx hb dX8_isSheet_0 rfl (lv_at hl 0 rfl) ?_
  refine lv_i2l hx hb dX8_isSheet_1 rfl ?_
  refine lv_lconst (v := 0) hx hb dX8_isSheet_2 (by decide) ?_
  refine lv_ldc2 hx hb hown kl195 dX8_isSheet_3 ?_
  refine hs_pi (va_runS (As := [.long (((i) : Int32).toInt64), .long 0, .long 3]) (rest := []) ⟨hx, hb, hml, hown, hts⟩ (m_in l D k _ i 0 3) (va_cwS 3 hts gX8_isSheet_X8_in rfl rfl rfl (by decide +kernel) ⟨Nat.le_of_ble_eq_true rfl, Nat.le_of_ble_eq_true rfl⟩) (hs_preS hK hN (hs_subP (w := []) hP [] rfl) (hD.sub (ws' := []) [] (by decide) rfl)) rfl rfl hl.1 rfl (lv_room (Nat.le_of_ble_eq_true rfl)) dX8_isSheet_6 ⟨Nat.le_of_ble_eq_true rfl, Nat.le_of_ble_eq_true rfl⟩) hP hD hS hA (fun r_1 u_3 H locs hw_2 hP hS => ?_)
  refine hs_topi (hsb (hsin i 0 3)) hw_2 ?_
  refine lv_if_eq (tgt := 28) hx hb dX8_isSheet_9 (by decide) (fun c_4 => ?_) (fun c_4 => ?_)
  · refine lv_iconst (v := 0) hx hb dX8_isSheet_28 (by decide) ?_
    exact hs_zret hx hb hr hlocks hK hP hD hS () [] rfl (by decide) dX8_isSheet_29 rfl (by simp only [hsb_0, hsb_1] at c_4; simp [hsb, c_4])
  · refine lv_iload_n hx hb dX8_isSheet_12 rfl (lv_at hl 1 rfl) ?_
    refine lv_i2l hx hb dX8_isSheet_13 rfl ?_
    refine lv_lconst (v := 0) hx hb dX8_isSheet_14 (by decide) ?_
    refine lv_ldc2 hx hb hown kl197 dX8_isSheet_15 ?_
    refine hs_pi (va_runS (As := [.long (((v) : Int32).toInt64), .long 0, .long 2]) (rest := []) ⟨hx, hb, hml, hown, hts⟩ (m_in l D k _ v 0 2) (va_cwS 3 hts gX8_isSheet_X8_in rfl rfl rfl (by decide +kernel) ⟨Nat.le_of_ble_eq_true rfl, Nat.le_of_ble_eq_true rfl⟩) (hs_preS hK hN (hs_subP (w := []) hP [] rfl) (hD.sub (ws' := []) [] (by decide) rfl)) rfl rfl hl.1 rfl (lv_room (Nat.le_of_ble_eq_true rfl)) dX8_isSheet_18 ⟨Nat.le_of_ble_eq_true rfl, Nat.le_of_ble_eq_true rfl⟩) hP hD hS hA (fun r_5 u_7 H locs hw_6 hP hS => ?_)
    refine hs_topi (hsb (hsin v 0 2)) hw_6 ?_
    refine lv_if_eq (tgt := 28) hx hb dX8_isSheet_21 (by decide) (fun c_8 => ?_) (fun c_8 => ?_)
    · refine lv_iconst (v := 0) hx hb dX8_isSheet_28 (by decide) ?_
      exact hs_zret hx hb hr hlocks hK hP hD hS () [] rfl (by decide) dX8_isSheet_29 rfl (by simp only [hsb_0, hsb_1] at c_4 c_8; simp [hsb, c_4, c_8])
    · refine lv_iconst (v := 1) hx hb dX8_isSheet_24 (by decide) ?_
      refine lv_goto (tgt := 29) hx hb dX8_isSheet_25 (by decide) ?_
      exact hs_zret hx hb hr hlocks hK hP hD hS () [] rfl (by decide) dX8_isSheet_29 rfl (by simp only [hsb_0, hsb_1] at c_4 c_8; simp [hsb, c_4, c_8])

set_option maxHeartbeats 4000000 in
set_option maxRecDepth 100000 in
theorem m_isCell0 (l : Launch) (D : va_G) (k : Nat → ClassId) (sz : Nat) (mo : Nat) (mo_st : Nat) (mo_at : Nat) (mo_isKept : Nat) (mo_draft : Nat) (mo_tape : Nat) (mo_row : Nat) (mo_before : Nat) (mo_lanes : Nat) (mo_sizes : Nat) (mo_cells : Nat) (mo_had : Nat) (i : Int32)  : MI l yX8_isCell wsX8_isCell ({ frames := 1, cells := 0, slots := 0, locals := 25 }) D k [.ref mo, .int i] [(mo, .inr (7, [.ref mo_st, .ref mo_at, .ref mo_isKept, .int 0, .int 2, .ref mo_draft, .int 0, .int 2, .int 0, .int (-4), .ref mo_tape, .int 0, .int 0, .int 0, .int 0, .int 0, .int 0, .int 0, .ref mo_row, .int 0, .int 0, .int 0, .int 0, .ref mo_before, .long 0, .long 0, .long 0, .ref mo_lanes, .ref mo_sizes, .ref mo_cells, .int 0, .ref mo_had])), (mo_st, .inl (k 0, 132, .inl (hst)))] sz (fun (r : Int32) (u : Unit) => r = hsb (hsin i 0 1)) (fun (u : Unit) => [(mo, .inr (7, [.ref mo_st, .ref mo_at, .ref mo_isKept, .int 0, .int 2, .ref mo_draft, .int 0, .int 2, .int 0, .int (-4), .ref mo_tape, .int 0, .int 0, .int 0, .int 0, .int 0, .int 0, .int 0, .ref mo_row, .int 0, .int 0, .int 0, .int 0, .ref mo_before, .long 0, .long 0, .long 0, .ref mo_lanes, .ref mo_sizes, .ref mo_cells, .int 0, .ref mo_had])), (mo_st, .inl (k 0, 132, .inl (hst)))]) := by
  refine Met.ofW (cc := cX8_isCell) (maxL := 2) (ret := (some .boolean)) (by decide) rfl ?_
  intro p e s m args below meth c s₁ B hml hv
  obtain ⟨rfl, hsz, hP, hK, hD0, hN⟩ := hv
  have hx := B.exec
  have hb := B.bytes
  have hr := B.returns
  have hlocks := B.notSynchronized
  have hts := atoms_spec (ws := wsX8_isCell) B.pre
  have hown : s.vm.findClass RX8 = some m.cls := findClass_of_methodNamed B.named
  have hiX8 : ∀ w ∈ u_ws RX8 TX8 32, w ∈ wsX8_isCell := by decide +kernel
  have fl7 := hts (.fieldLink RX8 7 "HalfScalesModel" "st" "[I") (by decide +kernel)
  subst hsz
  have hD := hD0.self (sz := s.heap.size)
  generalize hAe : va_A [(mo, .inr (7, [.ref mo_st, .ref mo_at, .ref mo_isKept, .int 0, .int 2, .ref mo_draft, .int 0, .int 2, .int 0, .int (-4), .ref mo_tape, .int 0, .int 0, .int 0, .int 0, .int 0, .int 0, .int 0, .ref mo_row, .int 0, .int 0, .int 0, .int 0, .ref mo_before, .long 0, .long 0, .long 0, .ref mo_lanes, .ref mo_sizes, .ref mo_cells, .int 0, .ref mo_had])), (mo_st, .inl (k 0, 132, .inl (hst)))] s.heap.size = A at hD ⊢
  have hA : ∀ q : Nat, s.heap.size ≤ q → A q := fun q h => by rw [← hAe]; exact Or.inr h
  have hS : va_S A s.heap s.heap [] := va_S.rf
  have hl := lv_entry ([.ref mo, .int i]) (n := 2) (Nat.le_of_ble_eq_true rfl)
  rw [lg_entry_eq]
  generalize (lg_sl ([.ref mo, .int i]) ++ List.replicate (2 - (lg_sl ([.ref mo, .int i])).length) Slot.unset).toArray = ls at hl ⊢
  have hl : lv_has ls 2 [(0, .ref mo), (1, .int i)] := hl
  have hP : va_P D vwCl [(mo, .inr (7, [.ref mo_st, .ref mo_at, .ref mo_isKept, .int 0, .int 2, .ref mo_draft, .int 0, .int 2, .int 0, .int (-4), .ref mo_tape, .int 0, .int 0, .int 0, .int 0, .int 0, .int 0, .int 0, .ref mo_row, .int 0, .int 0, .int 0, .int 0, .ref mo_before, .long 0, .long 0, .long 0, .ref mo_lanes, .ref mo_sizes, .ref mo_cells, .int 0, .ref mo_had])), (mo_st, .inl (k 0, 132, .inl (hst)))] s.heap := hP
  refine lv_iload_n hx hb dX8_isCell_0 rfl (lv_at hl 1 rfl) ?_
  refine lv_i2l hx hb dX8_isCell_1 rfl ?_
  refine lv_lconst (v := 0) hx hb dX8_isCell_2 (by decide) ?_
  refine lv_aload_n hx hb dX8_isCell_3 rfl (lv_at hl 0 rfl) ?_
  refine va_get (D := D) (ci := 7) (v := .ref mo_st) (C := RX8) (T := TX8) (N := 32) hx hb hts hiX8 hown hK hP 0 rfl rfl 0 (by decide) fl7 (fun _ h9 => h9) rfl dX8_isCell_4 ?_
  refine lv_iconst (v := 0) hx hb dX8_isCell_7 (by decide) ?_
  refine va_iald hx hb hK hP 1 0 rfl rfl (hs_in (by decide)) dX8_isCell_8 ?_
  refine hs_topi 2 (by first | rfl | decide +kernel) ?_
  refine lv_iconst (v := 1) hx hb dX8_isCell_9 (by decide) ?_
  refine lv_isub hx hb dX8_isCell_10 ?_
  refine hs_topi 1 (by first | rfl | decide +kernel) ?_
  refine lv_i2l (v := 1) hx hb dX8_isCell_11 (by decide +kernel) ?_
  refine hs_pi (va_runS (As := [.long (((i) : Int32).toInt64), .long 0, .long 1]) (rest := []) ⟨hx, hb, hml, hown, hts⟩ (m_in l D k _ i 0 1) (va_cwS 3 hts gX8_isCell_X8_in rfl rfl rfl (by decide +kernel) ⟨Nat.le_of_ble_eq_true rfl, Nat.le_of_ble_eq_true rfl⟩) (hs_preS hK hN (hs_subP (w := []) hP [] rfl) (hD.sub (ws' := []) [] (by decide) rfl)) rfl rfl hl.1 rfl (lv_room (Nat.le_of_ble_eq_true rfl)) dX8_isCell_12 ⟨Nat.le_of_ble_eq_true rfl, Nat.le_of_ble_eq_true rfl⟩) hP hD hS hA (fun r_1 u_3 H locs hw_2 hP hS => ?_)
  refine hs_topi (hsb (hsin i 0 1)) hw_2 ?_
  exact hs_zret hx hb hr hlocks hK hP hD hS () [0, 1] rfl (by decide) dX8_isCell_15 (hsb_n _) (rfl)

set_option maxHeartbeats 4000000 in
set_option maxRecDepth 100000 in
theorem m_isPerson0 (l : Launch) (D : va_G) (k : Nat → ClassId) (sz : Nat) (mo : Nat) (mo_st : Nat) (mo_at : Nat) (mo_isKept : Nat) (mo_draft : Nat) (mo_tape : Nat) (mo_row : Nat) (mo_before : Nat) (mo_lanes : Nat) (mo_sizes : Nat) (mo_cells : Nat) (mo_had : Nat) (i : Int32)  : MI l yX8_isPerson wsX8_isPerson ({ frames := 1, cells := 0, slots := 0, locals := 25 }) D k [.ref mo, .int i] [(mo, .inr (7, [.ref mo_st, .ref mo_at, .ref mo_isKept, .int 0, .int 2, .ref mo_draft, .int 0, .int 2, .int 0, .int (-4), .ref mo_tape, .int 0, .int 0, .int 0, .int 0, .int 0, .int 0, .int 0, .ref mo_row, .int 0, .int 0, .int 0, .int 0, .ref mo_before, .long 0, .long 0, .long 0, .ref mo_lanes, .ref mo_sizes, .ref mo_cells, .int 0, .ref mo_had])), (mo_st, .inl (k 0, 132, .inl (hst)))] sz (fun (r : Int32) (u : Unit) => r = 0) (fun (u : Unit) => [(mo, .inr (7, [.ref mo_st, .ref mo_at, .ref mo_isKept, .int 0, .int 2, .ref mo_draft, .int 0, .int 2, .int 0, .int (-4), .ref mo_tape, .int 0, .int 0, .int 0, .int 0, .int 0, .int 0, .int 0, .ref mo_row, .int 0, .int 0, .int 0, .int 0, .ref mo_before, .long 0, .long 0, .long 0, .ref mo_lanes, .ref mo_sizes, .ref mo_cells, .int 0, .ref mo_had])), (mo_st, .inl (k 0, 132, .inl (hst)))]) := by
  refine Met.ofW (cc := cX8_isPerson) (maxL := 2) (ret := (some .boolean)) (by decide) rfl ?_
  intro p e s m args below meth c s₁ B hml hv
  obtain ⟨rfl, hsz, hP, hK, hD0, hN⟩ := hv
  have hx := B.exec
  have hb := B.bytes
  have hr := B.returns
  have hlocks := B.notSynchronized
  have hts := atoms_spec (ws := wsX8_isPerson) B.pre
  have hown : s.vm.findClass RX8 = some m.cls := findClass_of_methodNamed B.named
  have hiX8 : ∀ w ∈ u_ws RX8 TX8 32, w ∈ wsX8_isPerson := by decide +kernel
  have fl63 := hts (.fieldLink RX8 63 "HalfScalesModel" "people" "I") (by decide +kernel)
  subst hsz
  have hD := hD0.self (sz := s.heap.size)
  generalize hAe : va_A [(mo, .inr (7, [.ref mo_st, .ref mo_at, .ref mo_isKept, .int 0, .int 2, .ref mo_draft, .int 0, .int 2, .int 0, .int (-4), .ref mo_tape, .int 0, .int 0, .int 0, .int 0, .int 0, .int 0, .int 0, .ref mo_row, .int 0, .int 0, .int 0, .int 0, .ref mo_before, .long 0, .long 0, .long 0, .ref mo_lanes, .ref mo_sizes, .ref mo_cells, .int 0, .ref mo_had])), (mo_st, .inl (k 0, 132, .inl (hst)))] s.heap.size = A at hD ⊢
  have hA : ∀ q : Nat, s.heap.size ≤ q → A q := fun q h => by rw [← hAe]; exact Or.inr h
  have hS : va_S A s.heap s.heap [] := va_S.rf
  have hl := lv_entry ([.ref mo, .int i]) (n := 2) (Nat.le_of_ble_eq_true rfl)
  rw [lg_entry_eq]
  generalize (lg_sl ([.ref mo, .int i]) ++ List.replicate (2 - (lg_sl ([.ref mo, .int i])).length) Slot.unset).toArray = ls at hl ⊢
  have hl : lv_has ls 2 [(0, .ref mo), (1, .int i)] := hl
  have hP : va_P D vwCl [(mo, .inr (7, [.ref mo_st, .ref mo_at, .ref mo_isKept, .int 0, .int 2, .ref mo_draft, .int 0, .int 2, .int 0, .int (-4), .ref mo_tape, .int 0, .int 0, .int 0, .int 0, .int 0, .int 0, .int 0, .ref mo_row, .int 0, .int 0, .int 0, .int 0, .ref mo_before, .long 0, .long 0, .long 0, .ref mo_lanes, .ref mo_sizes, .ref mo_cells, .int 0, .ref mo_had])), (mo_st, .inl (k 0, 132, .inl (hst)))] s.heap := hP
  refine lv_iload_n hx hb dX8_isPerson_0 rfl (lv_at hl 1 rfl) ?_
  refine lv_i2l hx hb dX8_isPerson_1 rfl ?_
  refine lv_lconst (v := 0) hx hb dX8_isPerson_2 (by decide) ?_
  refine lv_aload_n hx hb dX8_isPerson_3 rfl (lv_at hl 0 rfl) ?_
  refine va_get (D := D) (ci := 7) (v := .int 0) (C := RX8) (T := TX8) (N := 32) hx hb hts hiX8 hown hK hP 0 rfl rfl 3 (by decide) fl63 (fun _ h9 => h9) rfl dX8_isPerson_4 ?_
  refine lv_iconst (v := 1) hx hb dX8_isPerson_7 (by decide) ?_
  refine lv_isub hx hb dX8_isPerson_8 ?_
  refine hs_topi (-1) (by first | rfl | decide +kernel) ?_
  refine lv_i2l (v := (-1)) hx hb dX8_isPerson_9 (by decide +kernel) ?_
  refine hs_pi (va_runS (As := [.long (((i) : Int32).toInt64), .long 0, .long (-1)]) (rest := []) ⟨hx, hb, hml, hown, hts⟩ (m_in l D k _ i 0 (-1)) (va_cwS 3 hts gX8_isPerson_X8_in rfl rfl rfl (by decide +kernel) ⟨Nat.le_of_ble_eq_true rfl, Nat.le_of_ble_eq_true rfl⟩) (hs_preS hK hN (hs_subP (w := []) hP [] rfl) (hD.sub (ws' := []) [] (by decide) rfl)) rfl rfl hl.1 rfl (lv_room (Nat.le_of_ble_eq_true rfl)) dX8_isPerson_10 ⟨Nat.le_of_ble_eq_true rfl, Nat.le_of_ble_eq_true rfl⟩) hP hD hS hA (fun r_1 u_3 H locs hw_2 hP hS => ?_)
  refine hs_topi 0 (hw_2.trans (by first | rfl | decide +kernel | (rw [hsin_no]; rfl))) ?_
  exact hs_zret hx hb hr hlocks hK hP hD hS () [0, 1] rfl (by decide) dX8_isPerson_13 rfl (rfl)

set_option maxHeartbeats 4000000 in
set_option maxRecDepth 100000 in
theorem m_isCut0 (l : Launch) (D : va_G) (k : Nat → ClassId) (sz : Nat) (mo : Nat) (mo_st : Nat) (mo_at : Nat) (mo_isKept : Nat) (mo_draft : Nat) (mo_tape : Nat) (mo_row : Nat) (mo_before : Nat) (mo_lanes : Nat) (mo_sizes : Nat) (mo_cells : Nat) (mo_had : Nat) (i : Int32)  : MI l yX8_isCut wsX8_isCut ({ frames := 1, cells := 0, slots := 0, locals := 25 }) D k [.ref mo, .int i] [(mo, .inr (7, [.ref mo_st, .ref mo_at, .ref mo_isKept, .int 0, .int 2, .ref mo_draft, .int 0, .int 2, .int 0, .int (-4), .ref mo_tape, .int 0, .int 0, .int 0, .int 0, .int 0, .int 0, .int 0, .ref mo_row, .int 0, .int 0, .int 0, .int 0, .ref mo_before, .long 0, .long 0, .long 0, .ref mo_lanes, .ref mo_sizes, .ref mo_cells, .int 0, .ref mo_had])), (mo_st, .inl (k 0, 132, .inl (hst)))] sz (fun (r : Int32) (u : Unit) => r = hsb (hsin i 1 1)) (fun (u : Unit) => [(mo, .inr (7, [.ref mo_st, .ref mo_at, .ref mo_isKept, .int 0, .int 2, .ref mo_draft, .int 0, .int 2, .int 0, .int (-4), .ref mo_tape, .int 0, .int 0, .int 0, .int 0, .int 0, .int 0, .int 0, .ref mo_row, .int 0, .int 0, .int 0, .int 0, .ref mo_before, .long 0, .long 0, .long 0, .ref mo_lanes, .ref mo_sizes, .ref mo_cells, .int 0, .ref mo_had])), (mo_st, .inl (k 0, 132, .inl (hst)))]) := by
  refine Met.ofW (cc := cX8_isCut) (maxL := 2) (ret := (some .boolean)) (by decide) rfl ?_
  intro p e s m args below meth c s₁ B hml hv
  obtain ⟨rfl, hsz, hP, hK, hD0, hN⟩ := hv
  have hx := B.exec
  have hb := B.bytes
  have hr := B.returns
  have hlocks := B.notSynchronized
  have hts := atoms_spec (ws := wsX8_isCut) B.pre
  have hown : s.vm.findClass RX8 = some m.cls := findClass_of_methodNamed B.named
  have hiX8 : ∀ w ∈ u_ws RX8 TX8 32, w ∈ wsX8_isCut := by decide +kernel
  have fl7 := hts (.fieldLink RX8 7 "HalfScalesModel" "st" "[I") (by decide +kernel)
  subst hsz
  have hD := hD0.self (sz := s.heap.size)
  generalize hAe : va_A [(mo, .inr (7, [.ref mo_st, .ref mo_at, .ref mo_isKept, .int 0, .int 2, .ref mo_draft, .int 0, .int 2, .int 0, .int (-4), .ref mo_tape, .int 0, .int 0, .int 0, .int 0, .int 0, .int 0, .int 0, .ref mo_row, .int 0, .int 0, .int 0, .int 0, .ref mo_before, .long 0, .long 0, .long 0, .ref mo_lanes, .ref mo_sizes, .ref mo_cells, .int 0, .ref mo_had])), (mo_st, .inl (k 0, 132, .inl (hst)))] s.heap.size = A at hD ⊢
  have hA : ∀ q : Nat, s.heap.size ≤ q → A q := fun q h => by rw [← hAe]; exact Or.inr h
  have hS : va_S A s.heap s.heap [] := va_S.rf
  have hl := lv_entry ([.ref mo, .int i]) (n := 2) (Nat.le_of_ble_eq_true rfl)
  rw [lg_entry_eq]
  generalize (lg_sl ([.ref mo, .int i]) ++ List.replicate (2 - (lg_sl ([.ref mo, .int i])).length) Slot.unset).toArray = ls at hl ⊢
  have hl : lv_has ls 2 [(0, .ref mo), (1, .int i)] := hl
  have hP : va_P D vwCl [(mo, .inr (7, [.ref mo_st, .ref mo_at, .ref mo_isKept, .int 0, .int 2, .ref mo_draft, .int 0, .int 2, .int 0, .int (-4), .ref mo_tape, .int 0, .int 0, .int 0, .int 0, .int 0, .int 0, .int 0, .ref mo_row, .int 0, .int 0, .int 0, .int 0, .ref mo_before, .long 0, .long 0, .long 0, .ref mo_lanes, .ref mo_sizes, .ref mo_cells, .int 0, .ref mo_had])), (mo_st, .inl (k 0, 132, .inl (hst)))] s.heap := hP
  refine lv_iload_n hx hb dX8_isCut_0 rfl (lv_at hl 1 rfl) ?_
  refine lv_i2l hx hb dX8_isCut_1 rfl ?_
  refine lv_lconst (v := 1) hx hb dX8_isCut_2 (by decide) ?_
  refine lv_aload_n hx hb dX8_isCut_3 rfl (lv_at hl 0 rfl) ?_
  refine va_get (D := D) (ci := 7) (v := .ref mo_st) (C := RX8) (T := TX8) (N := 32) hx hb hts hiX8 hown hK hP 0 rfl rfl 0 (by decide) fl7 (fun _ h9 => h9) rfl dX8_isCut_4 ?_
  refine lv_iconst (v := 0) hx hb dX8_isCut_7 (by decide) ?_
  refine va_iald hx hb hK hP 1 0 rfl rfl (hs_in (by decide)) dX8_isCut_8 ?_
  refine hs_topi 2 (by first | rfl | decide +kernel) ?_
  refine lv_iconst (v := 1) hx hb dX8_isCut_9 (by decide) ?_
  refine lv_isub hx hb dX8_isCut_10 ?_
  refine hs_topi 1 (by first | rfl | decide +kernel) ?_
  refine lv_i2l (v := 1) hx hb dX8_isCut_11 (by decide +kernel) ?_
  refine hs_pi (va_runS (As := [.long (((i) : Int32).toInt64), .long 1, .long 1]) (rest := []) ⟨hx, hb, hml, hown, hts⟩ (m_in l D k _ i 1 1) (va_cwS 3 hts gX8_isCut_X8_in rfl rfl rfl (by decide +kernel) ⟨Nat.le_of_ble_eq_true rfl, Nat.le_of_ble_eq_true rfl⟩) (hs_preS hK hN (hs_subP (w := []) hP [] rfl) (hD.sub (ws' := []) [] (by decide) rfl)) rfl rfl hl.1 rfl (lv_room (Nat.le_of_ble_eq_true rfl)) dX8_isCut_12 ⟨Nat.le_of_ble_eq_true rfl, Nat.le_of_ble_eq_true rfl⟩) hP hD hS hA (fun r_1 u_3 H locs hw_2 hP hS => ?_)
  refine hs_topi (hsb (hsin i 1 1)) hw_2 ?_
  exact hs_zret hx hb hr hlocks hK hP hD hS () [0, 1] rfl (by decide) dX8_isCut_15 (hsb_n _) (rfl)

set_option maxHeartbeats 4000000 in
set_option maxRecDepth 100000 in
theorem m_firstDraft_z (l : Launch) (D : va_G) (k : Nat → ClassId) (sz : Nat) (mo : Nat) (mo_st : Nat) (mo_at : Nat) (mo_isKept : Nat) (mo_people : Int32) (mo_halfMany : Int32) (mo_draft : Nat) (mo_dPeople : Int32) (mo_dHalves : Int32) (mo_toldLines : Int32) (mo_highest : Int32) (mo_tape : Nat) (mo_taped : Int32) (mo_pos : Int32) (mo_from : Int32) (mo_sort : Int32) (mo_value : Int32) (mo_fault : Int32) (mo_wrongAt : Int32) (mo_row : Nat) (mo_orderMany : Int32) (mo_firstOrder : Int32) (mo_lightest : Int32) (mo_heaviest : Int32) (mo_before : Nat) (mo_justSum : Int64) (mo_toldSum : Int64) (mo_allWays : Int64) (mo_lanes : Nat) (mo_sizes : Nat) (mo_cells : Nat) (mo_torn : Int32) (mo_had : Nat)  : MV l yX8_firstDraft wsX8_firstDraft ({ frames := 0, cells := 0, slots := 0, locals := 0 }) D k [.ref mo] [(mo, .inr (7, [.ref mo_st, .ref mo_at, .ref mo_isKept, .int mo_people, .int mo_halfMany, .ref mo_draft, .int mo_dPeople, .int mo_dHalves, .int mo_toldLines, .int mo_highest, .ref mo_tape, .int mo_taped, .int mo_pos, .int mo_from, .int mo_sort, .int mo_value, .int mo_fault, .int mo_wrongAt, .ref mo_row, .int mo_orderMany, .int mo_firstOrder, .int mo_lightest, .int mo_heaviest, .ref mo_before, .long mo_justSum, .long mo_toldSum, .long mo_allWays, .ref mo_lanes, .ref mo_sizes, .ref mo_cells, .int mo_torn, .ref mo_had])), (mo_draft, .inl (k 0, 44, .inl (hsz)))] sz (fun (u : Unit) => True) (fun (u : Unit) => [(mo, .inr (7, [.ref mo_st, .ref mo_at, .ref mo_isKept, .int mo_people, .int mo_halfMany, .ref mo_draft, .int 0, .int 2, .int 0, .int (-4), .ref mo_tape, .int mo_taped, .int mo_pos, .int mo_from, .int mo_sort, .int mo_value, .int mo_fault, .int mo_wrongAt, .ref mo_row, .int mo_orderMany, .int mo_firstOrder, .int mo_lightest, .int mo_heaviest, .ref mo_before, .long mo_justSum, .long mo_toldSum, .long mo_allWays, .ref mo_lanes, .ref mo_sizes, .ref mo_cells, .int mo_torn, .ref mo_had])), (mo_draft, .inl (k 0, 44, .inl (hst)))]) := by
  refine Met.ofW (cc := cX8_firstDraft) (maxL := 2) (ret := none) (by decide) rfl ?_
  intro p e s m args below meth c s₁ B hml hv
  obtain ⟨rfl, hsz, hP, hK, hD0, hN⟩ := hv
  have hx := B.exec
  have hb := B.bytes
  have hr := B.returns
  have hlocks := B.notSynchronized
  have hts := atoms_spec (ws := wsX8_firstDraft) B.pre
  have hown : s.vm.findClass RX8 = some m.cls := findClass_of_methodNamed B.named
  have hiX8 : ∀ w ∈ u_ws RX8 TX8 32, w ∈ wsX8_firstDraft := by decide +kernel
  have fl20 := hts (.fieldLink RX8 20 "HalfScalesModel" "draft" "[I") (by decide +kernel)
  have fl50 := hts (.fieldLink RX8 50 "HalfScalesModel" "dPeople" "I") (by decide +kernel)
  have fl54 := hts (.fieldLink RX8 54 "HalfScalesModel" "dHalves" "I") (by decide +kernel)
  have fl57 := hts (.fieldLink RX8 57 "HalfScalesModel" "toldLines" "I") (by decide +kernel)
  have fl60 := hts (.fieldLink RX8 60 "HalfScalesModel" "highest" "I") (by decide +kernel)
  subst hsz
  have hD := hD0.self (sz := s.heap.size)
  generalize hAe : va_A [(mo, .inr (7, [.ref mo_st, .ref mo_at, .ref mo_isKept, .int mo_people, .int mo_halfMany, .ref mo_draft, .int mo_dPeople, .int mo_dHalves, .int mo_toldLines, .int mo_highest, .ref mo_tape, .int mo_taped, .int mo_pos, .int mo_from, .int mo_sort, .int mo_value, .int mo_fault, .int mo_wrongAt, .ref mo_row, .int mo_orderMany, .int mo_firstOrder, .int mo_lightest, .int mo_heaviest, .ref mo_before, .long mo_justSum, .long mo_toldSum, .long mo_allWays, .ref mo_lanes, .ref mo_sizes, .ref mo_cells, .int mo_torn, .ref mo_had])), (mo_draft, .inl (k 0, 44, .inl (hsz)))] s.heap.size = A at hD ⊢
  have hA : ∀ q : Nat, s.heap.size ≤ q → A q := fun q h => by rw [← hAe]; exact Or.inr h
  have hS : va_S A s.heap s.heap [] := va_S.rf
  have hl := lv_entry ([.ref mo]) (n := 2) (Nat.le_of_ble_eq_true rfl)
  rw [lg_entry_eq]
  generalize (lg_sl ([.ref mo]) ++ List.replicate (2 - (lg_sl ([.ref mo])).length) Slot.unset).toArray = ls at hl ⊢
  have hl : lv_has ls 2 [(0, .ref mo)] := hl
  have hP : va_P D vwCl [(mo, .inr (7, [.ref mo_st, .ref mo_at, .ref mo_isKept, .int mo_people, .int mo_halfMany, .ref mo_draft, .int mo_dPeople, .int mo_dHalves, .int mo_toldLines, .int mo_highest, .ref mo_tape, .int mo_taped, .int mo_pos, .int mo_from, .int mo_sort, .int mo_value, .int mo_fault, .int mo_wrongAt, .ref mo_row, .int mo_orderMany, .int mo_firstOrder, .int mo_lightest, .int mo_heaviest, .ref mo_before, .long mo_justSum, .long mo_toldSum, .long mo_allWays, .ref mo_lanes, .ref mo_sizes, .ref mo_cells, .int mo_torn, .ref mo_had])), (mo_draft, .inl (k 0, 44, .inl (hsz)))] s.heap := hP
  refine lv_iconst (v := 0) hx hb dX8_firstDraft_0 (by decide) ?_
  refine lv_istore_n (lv' := [(1, .int 0), (0, .ref mo)]) hx hb dX8_firstDraft_1 rfl hl (by decide) rfl (fun ls hl => ?_)
  refine hs_for 44 (fun i => [(mo, .inr (7, [.ref mo_st, .ref mo_at, .ref mo_isKept, .int mo_people, .int mo_halfMany, .ref mo_draft, .int mo_dPeople, .int mo_dHalves, .int mo_toldLines, .int mo_highest, .ref mo_tape, .int mo_taped, .int mo_pos, .int mo_from, .int mo_sort, .int mo_value, .int mo_fault, .int mo_wrongAt, .ref mo_row, .int mo_orderMany, .int mo_firstOrder, .int mo_lightest, .int mo_heaviest, .ref mo_before, .long mo_justSum, .long mo_toldSum, .long mo_allWays, .ref mo_lanes, .ref mo_sizes, .ref mo_cells, .int mo_torn, .ref mo_had])), (mo_draft, .inl (k 0, 44, .inl (hsfill hsz hsz i)))]) (fun i => [(1, .int (nI i)), (0, .ref mo)]) ?_ ?_ (by rw [hsfill_0]; exact hP) (by rw [hsfill_0]; exact hD) hS hl
  · intro i hi ih H locs ls hP hD hS hl
    refine lv_iload_n hx hb dX8_firstDraft_2 rfl (lv_at hl 0 rfl) ?_
    refine lv_bipush (v := 44) hx hb dX8_firstDraft_3 (by decide) ?_
    refine lv_icmp_ge (tgt := 21) hx hb dX8_firstDraft_5 (by decide) (fun c_1 => absurd c_1 (nI_ge (show i < 44 by omega) (by decide))) (fun c_1 => ?_)
    refine lv_aload_n hx hb dX8_firstDraft_8 rfl (lv_at hl 1 rfl) ?_
    refine va_get (D := D) (ci := 7) (v := .ref mo_draft) (C := RX8) (T := TX8) (N := 32) hx hb hts hiX8 hown hK hP 0 rfl rfl 5 (by decide) fl20 (fun _ h9 => h9) rfl dX8_firstDraft_9 ?_
    refine lv_iload_n hx hb dX8_firstDraft_12 rfl (lv_at hl 0 rfl) ?_
    refine lv_iconst (v := 0) hx hb dX8_firstDraft_13 (by decide) ?_
    refine va_iast hx hb hK hP hD hS 1 0 rfl rfl (vp_in_nI (show i < 44 by omega) (by decide)) dX8_firstDraft_14 (fun H locs hP hD hS => ?_)
    have hE : upd (hsfill hsz hsz i) ((nI i).toNatClampNeg) 0 = hsfill hsz hsz (i + 1) := by rw [nI_clamp (show i < 2 ^ 31 by omega)]; exact hsfill_s hsz hsz i
    have hP : va_P D vwCl [(mo, .inr (7, [.ref mo_st, .ref mo_at, .ref mo_isKept, .int mo_people, .int mo_halfMany, .ref mo_draft, .int mo_dPeople, .int mo_dHalves, .int mo_toldLines, .int mo_highest, .ref mo_tape, .int mo_taped, .int mo_pos, .int mo_from, .int mo_sort, .int mo_value, .int mo_fault, .int mo_wrongAt, .ref mo_row, .int mo_orderMany, .int mo_firstOrder, .int mo_lightest, .int mo_heaviest, .ref mo_before, .long mo_justSum, .long mo_toldSum, .long mo_allWays, .ref mo_lanes, .ref mo_sizes, .ref mo_cells, .int mo_torn, .ref mo_had])), (mo_draft, .inl (k 0, 44, .inl (upd (hsfill hsz hsz i) ((nI i).toNatClampNeg) 0)))] H := hP
    have hD : va_D A [(mo, .inr (7, [.ref mo_st, .ref mo_at, .ref mo_isKept, .int mo_people, .int mo_halfMany, .ref mo_draft, .int mo_dPeople, .int mo_dHalves, .int mo_toldLines, .int mo_highest, .ref mo_tape, .int mo_taped, .int mo_pos, .int mo_from, .int mo_sort, .int mo_value, .int mo_fault, .int mo_wrongAt, .ref mo_row, .int mo_orderMany, .int mo_firstOrder, .int mo_lightest, .int mo_heaviest, .ref mo_before, .long mo_justSum, .long mo_toldSum, .long mo_allWays, .ref mo_lanes, .ref mo_sizes, .ref mo_cells, .int mo_torn, .ref mo_had])), (mo_draft, .inl (k 0, 44, .inl (upd (hsfill hsz hsz i) ((nI i).toNatClampNeg) 0)))] := hD
    rw [hE] at hP hD
    refine lv_iinc (v := nI (i + 1)) (lv' := [(1, .int (nI (i + 1))), (0, .ref mo)]) hx hb dX8_firstDraft_15 hl (k := 0) rfl (by rw [nI_succ]; rfl) (by decide) rfl (fun ls hl => ?_)
    refine lv_goto (tgt := 2) hx hb dX8_firstDraft_18 (by decide) ?_
    exact ih _ _ _ hP hD hS (lv_sub hl [0, 1] rfl)
  · intro H locs ls hP hD hS hl
    have hE : hsfill hsz hsz 44 = hsz := hsfill_z _
    have hP : va_P D vwCl [(mo, .inr (7, [.ref mo_st, .ref mo_at, .ref mo_isKept, .int mo_people, .int mo_halfMany, .ref mo_draft, .int mo_dPeople, .int mo_dHalves, .int mo_toldLines, .int mo_highest, .ref mo_tape, .int mo_taped, .int mo_pos, .int mo_from, .int mo_sort, .int mo_value, .int mo_fault, .int mo_wrongAt, .ref mo_row, .int mo_orderMany, .int mo_firstOrder, .int mo_lightest, .int mo_heaviest, .ref mo_before, .long mo_justSum, .long mo_toldSum, .long mo_allWays, .ref mo_lanes, .ref mo_sizes, .ref mo_cells, .int mo_torn, .ref mo_had])), (mo_draft, .inl (k 0, 44, .inl (hsfill hsz hsz 44)))] H := hP
    have hD : va_D A [(mo, .inr (7, [.ref mo_st, .ref mo_at, .ref mo_isKept, .int mo_people, .int mo_halfMany, .ref mo_draft, .int mo_dPeople, .int mo_dHalves, .int mo_toldLines, .int mo_highest, .ref mo_tape, .int mo_taped, .int mo_pos, .int mo_from, .int mo_sort, .int mo_value, .int mo_fault, .int mo_wrongAt, .ref mo_row, .int mo_orderMany, .int mo_firstOrder, .int mo_lightest, .int mo_heaviest, .ref mo_before, .long mo_justSum, .long mo_toldSum, .long mo_allWays, .ref mo_lanes, .ref mo_sizes, .ref mo_cells, .int mo_torn, .ref mo_had])), (mo_draft, .inl (k 0, 44, .inl (hsfill hsz hsz 44)))] := hD
    rw [hE] at hP hD
    refine lv_iload_n hx hb dX8_firstDraft_2 rfl (lv_at hl 0 rfl) ?_
    refine lv_bipush (v := 44) hx hb dX8_firstDraft_3 (by decide) ?_
    refine lv_icmp_ge (tgt := 21) hx hb dX8_firstDraft_5 (by decide) (fun c_2 => ?_) (fun c_2 => absurd (show (44 : Int32) ≤ nI 44 by decide) c_2)
    refine lv_aload_n hx hb dX8_firstDraft_21 rfl (lv_at hl 1 rfl) ?_
    refine va_get (D := D) (ci := 7) (v := .ref mo_draft) (C := RX8) (T := TX8) (N := 32) hx hb hts hiX8 hown hK hP 0 rfl rfl 5 (by decide) fl20 (fun _ h9 => h9) rfl dX8_firstDraft_22 ?_
    refine lv_iconst (v := 0) hx hb dX8_firstDraft_25 (by decide) ?_
    refine lv_iconst (v := 2) hx hb dX8_firstDraft_26 (by decide) ?_
    refine va_iast hx hb hK hP hD hS 1 0 rfl rfl (hs_in (by decide)) dX8_firstDraft_27 (fun H locs hP hD hS => ?_)
    have hP : va_P D vwCl [(mo, .inr (7, [.ref mo_st, .ref mo_at, .ref mo_isKept, .int mo_people, .int mo_halfMany, .ref mo_draft, .int mo_dPeople, .int mo_dHalves, .int mo_toldLines, .int mo_highest, .ref mo_tape, .int mo_taped, .int mo_pos, .int mo_from, .int mo_sort, .int mo_value, .int mo_fault, .int mo_wrongAt, .ref mo_row, .int mo_orderMany, .int mo_firstOrder, .int mo_lightest, .int mo_heaviest, .ref mo_before, .long mo_justSum, .long mo_toldSum, .long mo_allWays, .ref mo_lanes, .ref mo_sizes, .ref mo_cells, .int mo_torn, .ref mo_had])), (mo_draft, .inl (k 0, 44, .inl (upd hsz 0 2)))] H := hP
    have hD : va_D A [(mo, .inr (7, [.ref mo_st, .ref mo_at, .ref mo_isKept, .int mo_people, .int mo_halfMany, .ref mo_draft, .int mo_dPeople, .int mo_dHalves, .int mo_toldLines, .int mo_highest, .ref mo_tape, .int mo_taped, .int mo_pos, .int mo_from, .int mo_sort, .int mo_value, .int mo_fault, .int mo_wrongAt, .ref mo_row, .int mo_orderMany, .int mo_firstOrder, .int mo_lightest, .int mo_heaviest, .ref mo_before, .long mo_justSum, .long mo_toldSum, .long mo_allWays, .ref mo_lanes, .ref mo_sizes, .ref mo_cells, .int mo_torn, .ref mo_had])), (mo_draft, .inl (k 0, 44, .inl (upd hsz 0 2)))] := hD
    refine lv_aload_n hx hb dX8_firstDraft_28 rfl (lv_at hl 1 rfl) ?_
    refine va_get (D := D) (ci := 7) (v := .ref mo_draft) (C := RX8) (T := TX8) (N := 32) hx hb hts hiX8 hown hK hP 0 rfl rfl 5 (by decide) fl20 (fun _ h9 => h9) rfl dX8_firstDraft_29 ?_
    refine lv_iconst (v := 1) hx hb dX8_firstDraft_32 (by decide) ?_
    refine lv_iconst (v := 1) hx hb dX8_firstDraft_33 (by decide) ?_
    refine va_iast hx hb hK hP hD hS 1 0 rfl rfl (hs_in (by decide)) dX8_firstDraft_34 (fun H locs hP hD hS => ?_)
    have hP : va_P D vwCl [(mo, .inr (7, [.ref mo_st, .ref mo_at, .ref mo_isKept, .int mo_people, .int mo_halfMany, .ref mo_draft, .int mo_dPeople, .int mo_dHalves, .int mo_toldLines, .int mo_highest, .ref mo_tape, .int mo_taped, .int mo_pos, .int mo_from, .int mo_sort, .int mo_value, .int mo_fault, .int mo_wrongAt, .ref mo_row, .int mo_orderMany, .int mo_firstOrder, .int mo_lightest, .int mo_heaviest, .ref mo_before, .long mo_justSum, .long mo_toldSum, .long mo_allWays, .ref mo_lanes, .ref mo_sizes, .ref mo_cells, .int mo_torn, .ref mo_had])), (mo_draft, .inl (k 0, 44, .inl (upd (upd hsz 0 2) 1 1)))] H := hP
    have hD : va_D A [(mo, .inr (7, [.ref mo_st, .ref mo_at, .ref mo_isKept, .int mo_people, .int mo_halfMany, .ref mo_draft, .int mo_dPeople, .int mo_dHalves, .int mo_toldLines, .int mo_highest, .ref mo_tape, .int mo_taped, .int mo_pos, .int mo_from, .int mo_sort, .int mo_value, .int mo_fault, .int mo_wrongAt, .ref mo_row, .int mo_orderMany, .int mo_firstOrder, .int mo_lightest, .int mo_heaviest, .ref mo_before, .long mo_justSum, .long mo_toldSum, .long mo_allWays, .ref mo_lanes, .ref mo_sizes, .ref mo_cells, .int mo_torn, .ref mo_had])), (mo_draft, .inl (k 0, 44, .inl (upd (upd hsz 0 2) 1 1)))] := hD
    refine lv_aload_n hx hb dX8_firstDraft_35 rfl (lv_at hl 1 rfl) ?_
    refine va_get (D := D) (ci := 7) (v := .ref mo_draft) (C := RX8) (T := TX8) (N := 32) hx hb hts hiX8 hown hK hP 0 rfl rfl 5 (by decide) fl20 (fun _ h9 => h9) rfl dX8_firstDraft_36 ?_
    refine lv_iconst (v := 2) hx hb dX8_firstDraft_39 (by decide) ?_
    refine lv_iconst (v := 1) hx hb dX8_firstDraft_40 (by decide) ?_
    refine va_iast hx hb hK hP hD hS 1 0 rfl rfl (hs_in (by decide)) dX8_firstDraft_41 (fun H locs hP hD hS => ?_)
    have hE : upd (upd (upd hsz 0 2) 1 1) 2 1 = hst := rfl
    have hP : va_P D vwCl [(mo, .inr (7, [.ref mo_st, .ref mo_at, .ref mo_isKept, .int mo_people, .int mo_halfMany, .ref mo_draft, .int mo_dPeople, .int mo_dHalves, .int mo_toldLines, .int mo_highest, .ref mo_tape, .int mo_taped, .int mo_pos, .int mo_from, .int mo_sort, .int mo_value, .int mo_fault, .int mo_wrongAt, .ref mo_row, .int mo_orderMany, .int mo_firstOrder, .int mo_lightest, .int mo_heaviest, .ref mo_before, .long mo_justSum, .long mo_toldSum, .long mo_allWays, .ref mo_lanes, .ref mo_sizes, .ref mo_cells, .int mo_torn, .ref mo_had])), (mo_draft, .inl (k 0, 44, .inl (upd (upd (upd hsz 0 2) 1 1) 2 1)))] H := hP
    have hD : va_D A [(mo, .inr (7, [.ref mo_st, .ref mo_at, .ref mo_isKept, .int mo_people, .int mo_halfMany, .ref mo_draft, .int mo_dPeople, .int mo_dHalves, .int mo_toldLines, .int mo_highest, .ref mo_tape, .int mo_taped, .int mo_pos, .int mo_from, .int mo_sort, .int mo_value, .int mo_fault, .int mo_wrongAt, .ref mo_row, .int mo_orderMany, .int mo_firstOrder, .int mo_lightest, .int mo_heaviest, .ref mo_before, .long mo_justSum, .long mo_toldSum, .long mo_allWays, .ref mo_lanes, .ref mo_sizes, .ref mo_cells, .int mo_torn, .ref mo_had])), (mo_draft, .inl (k 0, 44, .inl (upd (upd (upd hsz 0 2) 1 1) 2 1)))] := hD
    rw [hE] at hP hD
    refine lv_aload_n hx hb dX8_firstDraft_42 rfl (lv_at hl 1 rfl) ?_
    refine lv_iconst (v := 0) hx hb dX8_firstDraft_43 (by decide) ?_
    refine va_put (D := D) (ci := 7) (v := .int 0) (ty := .int) (C := RX8) (T := TX8) (N := 32) hx hb hts hiX8 tyX8 tyX8_ok nmX8 hown hK hP hD hS 0 rfl rfl 6 (by decide) fl50 (fun _ h9 => h9) rfl (by decide +kernel) rfl rfl (Nat.le_of_ble_eq_true rfl) dX8_firstDraft_44 (fun H locs hP hD hS => ?_)
    have hP : va_P D vwCl [(mo, .inr (7, [.ref mo_st, .ref mo_at, .ref mo_isKept, .int mo_people, .int mo_halfMany, .ref mo_draft, .int 0, .int mo_dHalves, .int mo_toldLines, .int mo_highest, .ref mo_tape, .int mo_taped, .int mo_pos, .int mo_from, .int mo_sort, .int mo_value, .int mo_fault, .int mo_wrongAt, .ref mo_row, .int mo_orderMany, .int mo_firstOrder, .int mo_lightest, .int mo_heaviest, .ref mo_before, .long mo_justSum, .long mo_toldSum, .long mo_allWays, .ref mo_lanes, .ref mo_sizes, .ref mo_cells, .int mo_torn, .ref mo_had])), (mo_draft, .inl (k 0, 44, .inl (hst)))] H := hP
    have hD : va_D A [(mo, .inr (7, [.ref mo_st, .ref mo_at, .ref mo_isKept, .int mo_people, .int mo_halfMany, .ref mo_draft, .int 0, .int mo_dHalves, .int mo_toldLines, .int mo_highest, .ref mo_tape, .int mo_taped, .int mo_pos, .int mo_from, .int mo_sort, .int mo_value, .int mo_fault, .int mo_wrongAt, .ref mo_row, .int mo_orderMany, .int mo_firstOrder, .int mo_lightest, .int mo_heaviest, .ref mo_before, .long mo_justSum, .long mo_toldSum, .long mo_allWays, .ref mo_lanes, .ref mo_sizes, .ref mo_cells, .int mo_torn, .ref mo_had])), (mo_draft, .inl (k 0, 44, .inl (hst)))] := hD
    refine lv_aload_n hx hb dX8_firstDraft_47 rfl (lv_at hl 1 rfl) ?_
    refine lv_iconst (v := 2) hx hb dX8_firstDraft_48 (by decide) ?_
    refine va_put (D := D) (ci := 7) (v := .int 2) (ty := .int) (C := RX8) (T := TX8) (N := 32) hx hb hts hiX8 tyX8 tyX8_ok nmX8 hown hK hP hD hS 0 rfl rfl 7 (by decide) fl54 (fun _ h9 => h9) rfl (by decide +kernel) rfl rfl (Nat.le_of_ble_eq_true rfl) dX8_firstDraft_49 (fun H locs hP hD hS => ?_)
    have hP : va_P D vwCl [(mo, .inr (7, [.ref mo_st, .ref mo_at, .ref mo_isKept, .int mo_people, .int mo_halfMany, .ref mo_draft, .int 0, .int 2, .int mo_toldLines, .int mo_highest, .ref mo_tape, .int mo_taped, .int mo_pos, .int mo_from, .int mo_sort, .int mo_value, .int mo_fault, .int mo_wrongAt, .ref mo_row, .int mo_orderMany, .int mo_firstOrder, .int mo_lightest, .int mo_heaviest, .ref mo_before, .long mo_justSum, .long mo_toldSum, .long mo_allWays, .ref mo_lanes, .ref mo_sizes, .ref mo_cells, .int mo_torn, .ref mo_had])), (mo_draft, .inl (k 0, 44, .inl (hst)))] H := hP
    have hD : va_D A [(mo, .inr (7, [.ref mo_st, .ref mo_at, .ref mo_isKept, .int mo_people, .int mo_halfMany, .ref mo_draft, .int 0, .int 2, .int mo_toldLines, .int mo_highest, .ref mo_tape, .int mo_taped, .int mo_pos, .int mo_from, .int mo_sort, .int mo_value, .int mo_fault, .int mo_wrongAt, .ref mo_row, .int mo_orderMany, .int mo_firstOrder, .int mo_lightest, .int mo_heaviest, .ref mo_before, .long mo_justSum, .long mo_toldSum, .long mo_allWays, .ref mo_lanes, .ref mo_sizes, .ref mo_cells, .int mo_torn, .ref mo_had])), (mo_draft, .inl (k 0, 44, .inl (hst)))] := hD
    refine lv_aload_n hx hb dX8_firstDraft_52 rfl (lv_at hl 1 rfl) ?_
    refine lv_iconst (v := 0) hx hb dX8_firstDraft_53 (by decide) ?_
    refine va_put (D := D) (ci := 7) (v := .int 0) (ty := .int) (C := RX8) (T := TX8) (N := 32) hx hb hts hiX8 tyX8 tyX8_ok nmX8 hown hK hP hD hS 0 rfl rfl 8 (by decide) fl57 (fun _ h9 => h9) rfl (by decide +kernel) rfl rfl (Nat.le_of_ble_eq_true rfl) dX8_firstDraft_54 (fun H locs hP hD hS => ?_)
    have hP : va_P D vwCl [(mo, .inr (7, [.ref mo_st, .ref mo_at, .ref mo_isKept, .int mo_people, .int mo_halfMany, .ref mo_draft, .int 0, .int 2, .int 0, .int mo_highest, .ref mo_tape, .int mo_taped, .int mo_pos, .int mo_from, .int mo_sort, .int mo_value, .int mo_fault, .int mo_wrongAt, .ref mo_row, .int mo_orderMany, .int mo_firstOrder, .int mo_lightest, .int mo_heaviest, .ref mo_before, .long mo_justSum, .long mo_toldSum, .long mo_allWays, .ref mo_lanes, .ref mo_sizes, .ref mo_cells, .int mo_torn, .ref mo_had])), (mo_draft, .inl (k 0, 44, .inl (hst)))] H := hP
    have hD : va_D A [(mo, .inr (7, [.ref mo_st, .ref mo_at, .ref mo_isKept, .int mo_people, .int mo_halfMany, .ref mo_draft, .int 0, .int 2, .int 0, .int mo_highest, .ref mo_tape, .int mo_taped, .int mo_pos, .int mo_from, .int mo_sort, .int mo_value, .int mo_fault, .int mo_wrongAt, .ref mo_row, .int mo_orderMany, .int mo_firstOrder, .int mo_lightest, .int mo_heaviest, .ref mo_before, .long mo_justSum, .long mo_toldSum, .long mo_allWays, .ref mo_lanes, .ref mo_sizes, .ref mo_cells, .int mo_torn, .ref mo_had])), (mo_draft, .inl (k 0, 44, .inl (hst)))] := hD
    refine lv_aload_n hx hb dX8_firstDraft_57 rfl (lv_at hl 1 rfl) ?_
    refine lv_bipush (v := (-4)) hx hb dX8_firstDraft_58 (by decide) ?_
    refine va_put (D := D) (ci := 7) (v := .int (-4)) (ty := .int) (C := RX8) (T := TX8) (N := 32) hx hb hts hiX8 tyX8 tyX8_ok nmX8 hown hK hP hD hS 0 rfl rfl 9 (by decide) fl60 (fun _ h9 => h9) rfl (by decide +kernel) rfl rfl (Nat.le_of_ble_eq_true rfl) dX8_firstDraft_60 (fun H locs hP hD hS => ?_)
    have hP : va_P D vwCl [(mo, .inr (7, [.ref mo_st, .ref mo_at, .ref mo_isKept, .int mo_people, .int mo_halfMany, .ref mo_draft, .int 0, .int 2, .int 0, .int (-4), .ref mo_tape, .int mo_taped, .int mo_pos, .int mo_from, .int mo_sort, .int mo_value, .int mo_fault, .int mo_wrongAt, .ref mo_row, .int mo_orderMany, .int mo_firstOrder, .int mo_lightest, .int mo_heaviest, .ref mo_before, .long mo_justSum, .long mo_toldSum, .long mo_allWays, .ref mo_lanes, .ref mo_sizes, .ref mo_cells, .int mo_torn, .ref mo_had])), (mo_draft, .inl (k 0, 44, .inl (hst)))] H := hP
    have hD : va_D A [(mo, .inr (7, [.ref mo_st, .ref mo_at, .ref mo_isKept, .int mo_people, .int mo_halfMany, .ref mo_draft, .int 0, .int 2, .int 0, .int (-4), .ref mo_tape, .int mo_taped, .int mo_pos, .int mo_from, .int mo_sort, .int mo_value, .int mo_fault, .int mo_wrongAt, .ref mo_row, .int mo_orderMany, .int mo_firstOrder, .int mo_lightest, .int mo_heaviest, .ref mo_before, .long mo_justSum, .long mo_toldSum, .long mo_allWays, .ref mo_lanes, .ref mo_sizes, .ref mo_cells, .int mo_torn, .ref mo_had])), (mo_draft, .inl (k 0, 44, .inl (hst)))] := hD
    exact hs_vret hx hb hr hlocks hK hP hD hS () [0, 1] rfl (by decide) dX8_firstDraft_63 (trivial)

set_option maxHeartbeats 4000000 in
set_option maxRecDepth 100000 in
theorem m_keepDraft_z (l : Launch) (D : va_G) (k : Nat → ClassId) (sz : Nat) (mo : Nat) (mo_st : Nat) (mo_at : Nat) (mo_isKept : Nat) (mo_people : Int32) (mo_halfMany : Int32) (mo_draft : Nat) (mo_dPeople : Int32) (mo_dHalves : Int32) (mo_toldLines : Int32) (mo_highest : Int32) (mo_tape : Nat) (mo_taped : Int32) (mo_pos : Int32) (mo_from : Int32) (mo_sort : Int32) (mo_value : Int32) (mo_fault : Int32) (mo_wrongAt : Int32) (mo_row : Nat) (mo_orderMany : Int32) (mo_firstOrder : Int32) (mo_lightest : Int32) (mo_heaviest : Int32) (mo_before : Nat) (mo_justSum : Int64) (mo_toldSum : Int64) (mo_allWays : Int64) (mo_lanes : Nat) (mo_sizes : Nat) (mo_cells : Nat) (mo_torn : Int32) (mo_had : Nat)  : MV l yX8_keepDraft wsX8_keepDraft ({ frames := 0, cells := 0, slots := 0, locals := 0 }) D k [.ref mo] [(mo, .inr (7, [.ref mo_st, .ref mo_at, .ref mo_isKept, .int mo_people, .int mo_halfMany, .ref mo_draft, .int mo_dPeople, .int mo_dHalves, .int mo_toldLines, .int mo_highest, .ref mo_tape, .int mo_taped, .int mo_pos, .int mo_from, .int mo_sort, .int mo_value, .int mo_fault, .int mo_wrongAt, .ref mo_row, .int mo_orderMany, .int mo_firstOrder, .int mo_lightest, .int mo_heaviest, .ref mo_before, .long mo_justSum, .long mo_toldSum, .long mo_allWays, .ref mo_lanes, .ref mo_sizes, .ref mo_cells, .int mo_torn, .ref mo_had])), (mo_st, .inl (k 0, 132, .inl (hsz))), (mo_isKept, .inl (k 2, 2, .inl (hsz))), (mo_draft, .inl (k 0, 44, .inl (hst)))] sz (fun (u : Unit) => True) (fun (u : Unit) => [(mo, .inr (7, [.ref mo_st, .ref mo_at, .ref mo_isKept, .int mo_dPeople, .int mo_dHalves, .ref mo_draft, .int mo_dPeople, .int mo_dHalves, .int mo_toldLines, .int mo_highest, .ref mo_tape, .int mo_taped, .int mo_pos, .int mo_from, .int mo_sort, .int mo_value, .int mo_fault, .int mo_wrongAt, .ref mo_row, .int mo_orderMany, .int mo_firstOrder, .int mo_lightest, .int mo_heaviest, .ref mo_before, .long mo_justSum, .long mo_toldSum, .long mo_allWays, .ref mo_lanes, .ref mo_sizes, .ref mo_cells, .int mo_torn, .ref mo_had])), (mo_st, .inl (k 0, 132, .inl (hst))), (mo_isKept, .inl (k 2, 2, .inl (hsz))), (mo_draft, .inl (k 0, 44, .inl (hst)))]) := by
  refine Met.ofW (cc := cX8_keepDraft) (maxL := 2) (ret := none) (by decide) rfl ?_
  intro p e s m args below meth c s₁ B hml hv
  obtain ⟨rfl, hsz, hP, hK, hD0, hN⟩ := hv
  have hx := B.exec
  have hb := B.bytes
  have hr := B.returns
  have hlocks := B.notSynchronized
  have hts := atoms_spec (ws := wsX8_keepDraft) B.pre
  have hown : s.vm.findClass RX8 = some m.cls := findClass_of_methodNamed B.named
  have hiX8 : ∀ w ∈ u_ws RX8 TX8 32, w ∈ wsX8_keepDraft := by decide +kernel
  have fl7 := hts (.fieldLink RX8 7 "HalfScalesModel" "st" "[I") (by decide +kernel)
  have fl20 := hts (.fieldLink RX8 20 "HalfScalesModel" "draft" "[I") (by decide +kernel)
  have fl50 := hts (.fieldLink RX8 50 "HalfScalesModel" "dPeople" "I") (by decide +kernel)
  have fl63 := hts (.fieldLink RX8 63 "HalfScalesModel" "people" "I") (by decide +kernel)
  have fl54 := hts (.fieldLink RX8 54 "HalfScalesModel" "dHalves" "I") (by decide +kernel)
  have fl66 := hts (.fieldLink RX8 66 "HalfScalesModel" "halfMany" "I") (by decide +kernel)
  have fl16 := hts (.fieldLink RX8 16 "HalfScalesModel" "isKept" "[Z") (by decide +kernel)
  subst hsz
  have hD := hD0.self (sz := s.heap.size)
  generalize hAe : va_A [(mo, .inr (7, [.ref mo_st, .ref mo_at, .ref mo_isKept, .int mo_people, .int mo_halfMany, .ref mo_draft, .int mo_dPeople, .int mo_dHalves, .int mo_toldLines, .int mo_highest, .ref mo_tape, .int mo_taped, .int mo_pos, .int mo_from, .int mo_sort, .int mo_value, .int mo_fault, .int mo_wrongAt, .ref mo_row, .int mo_orderMany, .int mo_firstOrder, .int mo_lightest, .int mo_heaviest, .ref mo_before, .long mo_justSum, .long mo_toldSum, .long mo_allWays, .ref mo_lanes, .ref mo_sizes, .ref mo_cells, .int mo_torn, .ref mo_had])), (mo_st, .inl (k 0, 132, .inl (hsz))), (mo_isKept, .inl (k 2, 2, .inl (hsz))), (mo_draft, .inl (k 0, 44, .inl (hst)))] s.heap.size = A at hD ⊢
  have hA : ∀ q : Nat, s.heap.size ≤ q → A q := fun q h => by rw [← hAe]; exact Or.inr h
  have hS : va_S A s.heap s.heap [] := va_S.rf
  have hl := lv_entry ([.ref mo]) (n := 2) (Nat.le_of_ble_eq_true rfl)
  rw [lg_entry_eq]
  generalize (lg_sl ([.ref mo]) ++ List.replicate (2 - (lg_sl ([.ref mo])).length) Slot.unset).toArray = ls at hl ⊢
  have hl : lv_has ls 2 [(0, .ref mo)] := hl
  have hP : va_P D vwCl [(mo, .inr (7, [.ref mo_st, .ref mo_at, .ref mo_isKept, .int mo_people, .int mo_halfMany, .ref mo_draft, .int mo_dPeople, .int mo_dHalves, .int mo_toldLines, .int mo_highest, .ref mo_tape, .int mo_taped, .int mo_pos, .int mo_from, .int mo_sort, .int mo_value, .int mo_fault, .int mo_wrongAt, .ref mo_row, .int mo_orderMany, .int mo_firstOrder, .int mo_lightest, .int mo_heaviest, .ref mo_before, .long mo_justSum, .long mo_toldSum, .long mo_allWays, .ref mo_lanes, .ref mo_sizes, .ref mo_cells, .int mo_torn, .ref mo_had])), (mo_st, .inl (k 0, 132, .inl (hsz))), (mo_isKept, .inl (k 2, 2, .inl (hsz))), (mo_draft, .inl (k 0, 44, .inl (hst)))] s.heap := hP
  refine lv_iconst (v := 0) hx hb dX8_keepDraft_0 (by decide) ?_
  refine lv_istore_n (lv' := [(1, .int 0), (0, .ref mo)]) hx hb dX8_keepDraft_1 rfl hl (by decide) rfl (fun ls hl => ?_)
  refine hs_for 44 (fun i => [(mo, .inr (7, [.ref mo_st, .ref mo_at, .ref mo_isKept, .int mo_people, .int mo_halfMany, .ref mo_draft, .int mo_dPeople, .int mo_dHalves, .int mo_toldLines, .int mo_highest, .ref mo_tape, .int mo_taped, .int mo_pos, .int mo_from, .int mo_sort, .int mo_value, .int mo_fault, .int mo_wrongAt, .ref mo_row, .int mo_orderMany, .int mo_firstOrder, .int mo_lightest, .int mo_heaviest, .ref mo_before, .long mo_justSum, .long mo_toldSum, .long mo_allWays, .ref mo_lanes, .ref mo_sizes, .ref mo_cells, .int mo_torn, .ref mo_had])), (mo_st, .inl (k 0, 132, .inl (hsfill hst hsz i))), (mo_isKept, .inl (k 2, 2, .inl (hsz))), (mo_draft, .inl (k 0, 44, .inl (hst)))]) (fun i => [(1, .int (nI i)), (0, .ref mo)]) ?_ ?_ (by rw [hsfill_0]; exact hP) (by rw [hsfill_0]; exact hD) hS hl
  · intro i hi ih H locs ls hP hD hS hl
    refine lv_iload_n hx hb dX8_keepDraft_2 rfl (lv_at hl 0 rfl) ?_
    refine lv_bipush (v := 44) hx hb dX8_keepDraft_3 (by decide) ?_
    refine lv_icmp_ge (tgt := 26) hx hb dX8_keepDraft_5 (by decide) (fun c_1 => absurd c_1 (nI_ge (show i < 44 by omega) (by decide))) (fun c_1 => ?_)
    refine lv_aload_n hx hb dX8_keepDraft_8 rfl (lv_at hl 1 rfl) ?_
    refine va_get (D := D) (ci := 7) (v := .ref mo_st) (C := RX8) (T := TX8) (N := 32) hx hb hts hiX8 hown hK hP 0 rfl rfl 0 (by decide) fl7 (fun _ h9 => h9) rfl dX8_keepDraft_9 ?_
    refine lv_iload_n hx hb dX8_keepDraft_12 rfl (lv_at hl 0 rfl) ?_
    refine lv_aload_n hx hb dX8_keepDraft_13 rfl (lv_at hl 1 rfl) ?_
    refine va_get (D := D) (ci := 7) (v := .ref mo_draft) (C := RX8) (T := TX8) (N := 32) hx hb hts hiX8 hown hK hP 0 rfl rfl 5 (by decide) fl20 (fun _ h9 => h9) rfl dX8_keepDraft_14 ?_
    refine lv_iload_n hx hb dX8_keepDraft_17 rfl (lv_at hl 0 rfl) ?_
    refine va_iald hx hb hK hP 3 0 rfl rfl (vp_in_nI (show i < 44 by omega) (by decide)) dX8_keepDraft_18 ?_
    refine va_iast hx hb hK hP hD hS 1 0 rfl rfl (vp_in_nI (show i < 132 by omega) (by decide)) dX8_keepDraft_19 (fun H locs hP hD hS => ?_)
    have hE : upd (hsfill hst hsz i) ((nI i).toNatClampNeg) (hst (nI i).toNatClampNeg) = hsfill hst hsz (i + 1) := by rw [nI_clamp (show i < 2 ^ 31 by omega)]; exact hsfill_s hst hsz i
    have hP : va_P D vwCl [(mo, .inr (7, [.ref mo_st, .ref mo_at, .ref mo_isKept, .int mo_people, .int mo_halfMany, .ref mo_draft, .int mo_dPeople, .int mo_dHalves, .int mo_toldLines, .int mo_highest, .ref mo_tape, .int mo_taped, .int mo_pos, .int mo_from, .int mo_sort, .int mo_value, .int mo_fault, .int mo_wrongAt, .ref mo_row, .int mo_orderMany, .int mo_firstOrder, .int mo_lightest, .int mo_heaviest, .ref mo_before, .long mo_justSum, .long mo_toldSum, .long mo_allWays, .ref mo_lanes, .ref mo_sizes, .ref mo_cells, .int mo_torn, .ref mo_had])), (mo_st, .inl (k 0, 132, .inl (upd (hsfill hst hsz i) ((nI i).toNatClampNeg) (hst (nI i).toNatClampNeg)))), (mo_isKept, .inl (k 2, 2, .inl (hsz))), (mo_draft, .inl (k 0, 44, .inl (hst)))] H := hP
    have hD : va_D A [(mo, .inr (7, [.ref mo_st, .ref mo_at, .ref mo_isKept, .int mo_people, .int mo_halfMany, .ref mo_draft, .int mo_dPeople, .int mo_dHalves, .int mo_toldLines, .int mo_highest, .ref mo_tape, .int mo_taped, .int mo_pos, .int mo_from, .int mo_sort, .int mo_value, .int mo_fault, .int mo_wrongAt, .ref mo_row, .int mo_orderMany, .int mo_firstOrder, .int mo_lightest, .int mo_heaviest, .ref mo_before, .long mo_justSum, .long mo_toldSum, .long mo_allWays, .ref mo_lanes, .ref mo_sizes, .ref mo_cells, .int mo_torn, .ref mo_had])), (mo_st, .inl (k 0, 132, .inl (upd (hsfill hst hsz i) ((nI i).toNatClampNeg) (hst (nI i).toNatClampNeg)))), (mo_isKept, .inl (k 2, 2, .inl (hsz))), (mo_draft, .inl (k 0, 44, .inl (hst)))] := hD
    rw [hE] at hP hD
    refine lv_iinc (v := nI (i + 1)) (lv' := [(1, .int (nI (i + 1))), (0, .ref mo)]) hx hb dX8_keepDraft_20 hl (k := 0) rfl (by rw [nI_succ]; rfl) (by decide) rfl (fun ls hl => ?_)
    refine lv_goto (tgt := 2) hx hb dX8_keepDraft_23 (by decide) ?_
    exact ih _ _ _ hP hD hS (lv_sub hl [0, 1] rfl)
  · intro H locs ls hP hD hS hl
    have hE : hsfill hst hsz 44 = hst := hsfill_st
    have hP : va_P D vwCl [(mo, .inr (7, [.ref mo_st, .ref mo_at, .ref mo_isKept, .int mo_people, .int mo_halfMany, .ref mo_draft, .int mo_dPeople, .int mo_dHalves, .int mo_toldLines, .int mo_highest, .ref mo_tape, .int mo_taped, .int mo_pos, .int mo_from, .int mo_sort, .int mo_value, .int mo_fault, .int mo_wrongAt, .ref mo_row, .int mo_orderMany, .int mo_firstOrder, .int mo_lightest, .int mo_heaviest, .ref mo_before, .long mo_justSum, .long mo_toldSum, .long mo_allWays, .ref mo_lanes, .ref mo_sizes, .ref mo_cells, .int mo_torn, .ref mo_had])), (mo_st, .inl (k 0, 132, .inl (hsfill hst hsz 44))), (mo_isKept, .inl (k 2, 2, .inl (hsz))), (mo_draft, .inl (k 0, 44, .inl (hst)))] H := hP
    have hD : va_D A [(mo, .inr (7, [.ref mo_st, .ref mo_at, .ref mo_isKept, .int mo_people, .int mo_halfMany, .ref mo_draft, .int mo_dPeople, .int mo_dHalves, .int mo_toldLines, .int mo_highest, .ref mo_tape, .int mo_taped, .int mo_pos, .int mo_from, .int mo_sort, .int mo_value, .int mo_fault, .int mo_wrongAt, .ref mo_row, .int mo_orderMany, .int mo_firstOrder, .int mo_lightest, .int mo_heaviest, .ref mo_before, .long mo_justSum, .long mo_toldSum, .long mo_allWays, .ref mo_lanes, .ref mo_sizes, .ref mo_cells, .int mo_torn, .ref mo_had])), (mo_st, .inl (k 0, 132, .inl (hsfill hst hsz 44))), (mo_isKept, .inl (k 2, 2, .inl (hsz))), (mo_draft, .inl (k 0, 44, .inl (hst)))] := hD
    rw [hE] at hP hD
    refine lv_iload_n hx hb dX8_keepDraft_2 rfl (lv_at hl 0 rfl) ?_
    refine lv_bipush (v := 44) hx hb dX8_keepDraft_3 (by decide) ?_
    refine lv_icmp_ge (tgt := 26) hx hb dX8_keepDraft_5 (by decide) (fun c_2 => ?_) (fun c_2 => absurd (show (44 : Int32) ≤ nI 44 by decide) c_2)
    refine lv_aload_n hx hb dX8_keepDraft_26 rfl (lv_at hl 1 rfl) ?_
    refine lv_aload_n hx hb dX8_keepDraft_27 rfl (lv_at hl 1 rfl) ?_
    refine va_get (D := D) (ci := 7) (v := .int mo_dPeople) (C := RX8) (T := TX8) (N := 32) hx hb hts hiX8 hown hK hP 0 rfl rfl 6 (by decide) fl50 (fun _ h9 => h9) rfl dX8_keepDraft_28 ?_
    refine va_put (D := D) (ci := 7) (v := .int mo_dPeople) (ty := .int) (C := RX8) (T := TX8) (N := 32) hx hb hts hiX8 tyX8 tyX8_ok nmX8 hown hK hP hD hS 0 rfl rfl 3 (by decide) fl63 (fun _ h9 => h9) rfl (by decide +kernel) rfl rfl (Nat.le_of_ble_eq_true rfl) dX8_keepDraft_31 (fun H locs hP hD hS => ?_)
    have hP : va_P D vwCl [(mo, .inr (7, [.ref mo_st, .ref mo_at, .ref mo_isKept, .int mo_dPeople, .int mo_halfMany, .ref mo_draft, .int mo_dPeople, .int mo_dHalves, .int mo_toldLines, .int mo_highest, .ref mo_tape, .int mo_taped, .int mo_pos, .int mo_from, .int mo_sort, .int mo_value, .int mo_fault, .int mo_wrongAt, .ref mo_row, .int mo_orderMany, .int mo_firstOrder, .int mo_lightest, .int mo_heaviest, .ref mo_before, .long mo_justSum, .long mo_toldSum, .long mo_allWays, .ref mo_lanes, .ref mo_sizes, .ref mo_cells, .int mo_torn, .ref mo_had])), (mo_st, .inl (k 0, 132, .inl (hst))), (mo_isKept, .inl (k 2, 2, .inl (hsz))), (mo_draft, .inl (k 0, 44, .inl (hst)))] H := hP
    have hD : va_D A [(mo, .inr (7, [.ref mo_st, .ref mo_at, .ref mo_isKept, .int mo_dPeople, .int mo_halfMany, .ref mo_draft, .int mo_dPeople, .int mo_dHalves, .int mo_toldLines, .int mo_highest, .ref mo_tape, .int mo_taped, .int mo_pos, .int mo_from, .int mo_sort, .int mo_value, .int mo_fault, .int mo_wrongAt, .ref mo_row, .int mo_orderMany, .int mo_firstOrder, .int mo_lightest, .int mo_heaviest, .ref mo_before, .long mo_justSum, .long mo_toldSum, .long mo_allWays, .ref mo_lanes, .ref mo_sizes, .ref mo_cells, .int mo_torn, .ref mo_had])), (mo_st, .inl (k 0, 132, .inl (hst))), (mo_isKept, .inl (k 2, 2, .inl (hsz))), (mo_draft, .inl (k 0, 44, .inl (hst)))] := hD
    refine lv_aload_n hx hb dX8_keepDraft_34 rfl (lv_at hl 1 rfl) ?_
    refine lv_aload_n hx hb dX8_keepDraft_35 rfl (lv_at hl 1 rfl) ?_
    refine va_get (D := D) (ci := 7) (v := .int mo_dHalves) (C := RX8) (T := TX8) (N := 32) hx hb hts hiX8 hown hK hP 0 rfl rfl 7 (by decide) fl54 (fun _ h9 => h9) rfl dX8_keepDraft_36 ?_
    refine va_put (D := D) (ci := 7) (v := .int mo_dHalves) (ty := .int) (C := RX8) (T := TX8) (N := 32) hx hb hts hiX8 tyX8 tyX8_ok nmX8 hown hK hP hD hS 0 rfl rfl 4 (by decide) fl66 (fun _ h9 => h9) rfl (by decide +kernel) rfl rfl (Nat.le_of_ble_eq_true rfl) dX8_keepDraft_39 (fun H locs hP hD hS => ?_)
    have hP : va_P D vwCl [(mo, .inr (7, [.ref mo_st, .ref mo_at, .ref mo_isKept, .int mo_dPeople, .int mo_dHalves, .ref mo_draft, .int mo_dPeople, .int mo_dHalves, .int mo_toldLines, .int mo_highest, .ref mo_tape, .int mo_taped, .int mo_pos, .int mo_from, .int mo_sort, .int mo_value, .int mo_fault, .int mo_wrongAt, .ref mo_row, .int mo_orderMany, .int mo_firstOrder, .int mo_lightest, .int mo_heaviest, .ref mo_before, .long mo_justSum, .long mo_toldSum, .long mo_allWays, .ref mo_lanes, .ref mo_sizes, .ref mo_cells, .int mo_torn, .ref mo_had])), (mo_st, .inl (k 0, 132, .inl (hst))), (mo_isKept, .inl (k 2, 2, .inl (hsz))), (mo_draft, .inl (k 0, 44, .inl (hst)))] H := hP
    have hD : va_D A [(mo, .inr (7, [.ref mo_st, .ref mo_at, .ref mo_isKept, .int mo_dPeople, .int mo_dHalves, .ref mo_draft, .int mo_dPeople, .int mo_dHalves, .int mo_toldLines, .int mo_highest, .ref mo_tape, .int mo_taped, .int mo_pos, .int mo_from, .int mo_sort, .int mo_value, .int mo_fault, .int mo_wrongAt, .ref mo_row, .int mo_orderMany, .int mo_firstOrder, .int mo_lightest, .int mo_heaviest, .ref mo_before, .long mo_justSum, .long mo_toldSum, .long mo_allWays, .ref mo_lanes, .ref mo_sizes, .ref mo_cells, .int mo_torn, .ref mo_had])), (mo_st, .inl (k 0, 132, .inl (hst))), (mo_isKept, .inl (k 2, 2, .inl (hsz))), (mo_draft, .inl (k 0, 44, .inl (hst)))] := hD
    refine lv_aload_n hx hb dX8_keepDraft_42 rfl (lv_at hl 1 rfl) ?_
    refine va_get (D := D) (ci := 7) (v := .ref mo_isKept) (C := RX8) (T := TX8) (N := 32) hx hb hts hiX8 hown hK hP 0 rfl rfl 2 (by decide) fl16 (fun _ h9 => h9) rfl dX8_keepDraft_43 ?_
    refine lv_iconst (v := 0) hx hb dX8_keepDraft_46 (by decide) ?_
    refine lv_iconst (v := 0) hx hb dX8_keepDraft_47 (by decide) ?_
    refine va_zast hx hb hK hP hD hS 2 2 rfl rfl (hs_in (by decide)) dX8_keepDraft_48 (fun H locs hP hD hS => ?_)
    have hE : upd hsz 0 0 = hsz := hs_uz 0
    have hP : va_P D vwCl [(mo, .inr (7, [.ref mo_st, .ref mo_at, .ref mo_isKept, .int mo_dPeople, .int mo_dHalves, .ref mo_draft, .int mo_dPeople, .int mo_dHalves, .int mo_toldLines, .int mo_highest, .ref mo_tape, .int mo_taped, .int mo_pos, .int mo_from, .int mo_sort, .int mo_value, .int mo_fault, .int mo_wrongAt, .ref mo_row, .int mo_orderMany, .int mo_firstOrder, .int mo_lightest, .int mo_heaviest, .ref mo_before, .long mo_justSum, .long mo_toldSum, .long mo_allWays, .ref mo_lanes, .ref mo_sizes, .ref mo_cells, .int mo_torn, .ref mo_had])), (mo_st, .inl (k 0, 132, .inl (hst))), (mo_isKept, .inl (k 2, 2, .inl (upd hsz 0 0))), (mo_draft, .inl (k 0, 44, .inl (hst)))] H := hP
    have hD : va_D A [(mo, .inr (7, [.ref mo_st, .ref mo_at, .ref mo_isKept, .int mo_dPeople, .int mo_dHalves, .ref mo_draft, .int mo_dPeople, .int mo_dHalves, .int mo_toldLines, .int mo_highest, .ref mo_tape, .int mo_taped, .int mo_pos, .int mo_from, .int mo_sort, .int mo_value, .int mo_fault, .int mo_wrongAt, .ref mo_row, .int mo_orderMany, .int mo_firstOrder, .int mo_lightest, .int mo_heaviest, .ref mo_before, .long mo_justSum, .long mo_toldSum, .long mo_allWays, .ref mo_lanes, .ref mo_sizes, .ref mo_cells, .int mo_torn, .ref mo_had])), (mo_st, .inl (k 0, 132, .inl (hst))), (mo_isKept, .inl (k 2, 2, .inl (upd hsz 0 0))), (mo_draft, .inl (k 0, 44, .inl (hst)))] := hD
    rw [hE] at hP hD
    refine lv_aload_n hx hb dX8_keepDraft_49 rfl (lv_at hl 1 rfl) ?_
    refine va_get (D := D) (ci := 7) (v := .ref mo_isKept) (C := RX8) (T := TX8) (N := 32) hx hb hts hiX8 hown hK hP 0 rfl rfl 2 (by decide) fl16 (fun _ h9 => h9) rfl dX8_keepDraft_50 ?_
    refine lv_iconst (v := 1) hx hb dX8_keepDraft_53 (by decide) ?_
    refine lv_iconst (v := 0) hx hb dX8_keepDraft_54 (by decide) ?_
    refine va_zast hx hb hK hP hD hS 2 2 rfl rfl (hs_in (by decide)) dX8_keepDraft_55 (fun H locs hP hD hS => ?_)
    have hE : upd hsz 1 0 = hsz := hs_uz 1
    have hP : va_P D vwCl [(mo, .inr (7, [.ref mo_st, .ref mo_at, .ref mo_isKept, .int mo_dPeople, .int mo_dHalves, .ref mo_draft, .int mo_dPeople, .int mo_dHalves, .int mo_toldLines, .int mo_highest, .ref mo_tape, .int mo_taped, .int mo_pos, .int mo_from, .int mo_sort, .int mo_value, .int mo_fault, .int mo_wrongAt, .ref mo_row, .int mo_orderMany, .int mo_firstOrder, .int mo_lightest, .int mo_heaviest, .ref mo_before, .long mo_justSum, .long mo_toldSum, .long mo_allWays, .ref mo_lanes, .ref mo_sizes, .ref mo_cells, .int mo_torn, .ref mo_had])), (mo_st, .inl (k 0, 132, .inl (hst))), (mo_isKept, .inl (k 2, 2, .inl (upd hsz 1 0))), (mo_draft, .inl (k 0, 44, .inl (hst)))] H := hP
    have hD : va_D A [(mo, .inr (7, [.ref mo_st, .ref mo_at, .ref mo_isKept, .int mo_dPeople, .int mo_dHalves, .ref mo_draft, .int mo_dPeople, .int mo_dHalves, .int mo_toldLines, .int mo_highest, .ref mo_tape, .int mo_taped, .int mo_pos, .int mo_from, .int mo_sort, .int mo_value, .int mo_fault, .int mo_wrongAt, .ref mo_row, .int mo_orderMany, .int mo_firstOrder, .int mo_lightest, .int mo_heaviest, .ref mo_before, .long mo_justSum, .long mo_toldSum, .long mo_allWays, .ref mo_lanes, .ref mo_sizes, .ref mo_cells, .int mo_torn, .ref mo_had])), (mo_st, .inl (k 0, 132, .inl (hst))), (mo_isKept, .inl (k 2, 2, .inl (upd hsz 1 0))), (mo_draft, .inl (k 0, 44, .inl (hst)))] := hD
    rw [hE] at hP hD
    exact hs_vret hx hb hr hlocks hK hP hD hS () [0, 1, 2, 3] rfl (by decide) dX8_keepDraft_56 (trivial)

set_option maxHeartbeats 4000000 in
set_option maxRecDepth 100000 in
theorem m_firstDraft_t (l : Launch) (D : va_G) (k : Nat → ClassId) (sz : Nat) (mo : Nat) (mo_st : Nat) (mo_at : Nat) (mo_isKept : Nat) (mo_people : Int32) (mo_halfMany : Int32) (mo_draft : Nat) (mo_dPeople : Int32) (mo_dHalves : Int32) (mo_toldLines : Int32) (mo_highest : Int32) (mo_tape : Nat) (mo_taped : Int32) (mo_pos : Int32) (mo_from : Int32) (mo_sort : Int32) (mo_value : Int32) (mo_fault : Int32) (mo_wrongAt : Int32) (mo_row : Nat) (mo_orderMany : Int32) (mo_firstOrder : Int32) (mo_lightest : Int32) (mo_heaviest : Int32) (mo_before : Nat) (mo_justSum : Int64) (mo_toldSum : Int64) (mo_allWays : Int64) (mo_lanes : Nat) (mo_sizes : Nat) (mo_cells : Nat) (mo_torn : Int32) (mo_had : Nat)  : MV l yX8_firstDraft wsX8_firstDraft ({ frames := 0, cells := 0, slots := 0, locals := 0 }) D k [.ref mo] [(mo, .inr (7, [.ref mo_st, .ref mo_at, .ref mo_isKept, .int mo_people, .int mo_halfMany, .ref mo_draft, .int mo_dPeople, .int mo_dHalves, .int mo_toldLines, .int mo_highest, .ref mo_tape, .int mo_taped, .int mo_pos, .int mo_from, .int mo_sort, .int mo_value, .int mo_fault, .int mo_wrongAt, .ref mo_row, .int mo_orderMany, .int mo_firstOrder, .int mo_lightest, .int mo_heaviest, .ref mo_before, .long mo_justSum, .long mo_toldSum, .long mo_allWays, .ref mo_lanes, .ref mo_sizes, .ref mo_cells, .int mo_torn, .ref mo_had])), (mo_draft, .inl (k 0, 44, .inl (hst)))] sz (fun (u : Unit) => True) (fun (u : Unit) => [(mo, .inr (7, [.ref mo_st, .ref mo_at, .ref mo_isKept, .int mo_people, .int mo_halfMany, .ref mo_draft, .int 0, .int 2, .int 0, .int (-4), .ref mo_tape, .int mo_taped, .int mo_pos, .int mo_from, .int mo_sort, .int mo_value, .int mo_fault, .int mo_wrongAt, .ref mo_row, .int mo_orderMany, .int mo_firstOrder, .int mo_lightest, .int mo_heaviest, .ref mo_before, .long mo_justSum, .long mo_toldSum, .long mo_allWays, .ref mo_lanes, .ref mo_sizes, .ref mo_cells, .int mo_torn, .ref mo_had])), (mo_draft, .inl (k 0, 44, .inl (hst)))]) := by
  refine Met.ofW (cc := cX8_firstDraft) (maxL := 2) (ret := none) (by decide) rfl ?_
  intro p e s m args below meth c s₁ B hml hv
  obtain ⟨rfl, hsz, hP, hK, hD0, hN⟩ := hv
  have hx := B.exec
  have hb := B.bytes
  have hr := B.returns
  have hlocks := B.notSynchronized
  have hts := atoms_spec (ws := wsX8_firstDraft) B.pre
  have hown : s.vm.findClass RX8 = some m.cls := findClass_of_methodNamed B.named
  have hiX8 : ∀ w ∈ u_ws RX8 TX8 32, w ∈ wsX8_firstDraft := by decide +kernel
  have fl20 := hts (.fieldLink RX8 20 "HalfScalesModel" "draft" "[I") (by decide +kernel)
  have fl50 := hts (.fieldLink RX8 50 "HalfScalesModel" "dPeople" "I") (by decide +kernel)
  have fl54 := hts (.fieldLink RX8 54 "HalfScalesModel" "dHalves" "I") (by decide +kernel)
  have fl57 := hts (.fieldLink RX8 57 "HalfScalesModel" "toldLines" "I") (by decide +kernel)
  have fl60 := hts (.fieldLink RX8 60 "HalfScalesModel" "highest" "I") (by decide +kernel)
  subst hsz
  have hD := hD0.self (sz := s.heap.size)
  generalize hAe : va_A [(mo, .inr (7, [.ref mo_st, .ref mo_at, .ref mo_isKept, .int mo_people, .int mo_halfMany, .ref mo_draft, .int mo_dPeople, .int mo_dHalves, .int mo_toldLines, .int mo_highest, .ref mo_tape, .int mo_taped, .int mo_pos, .int mo_from, .int mo_sort, .int mo_value, .int mo_fault, .int mo_wrongAt, .ref mo_row, .int mo_orderMany, .int mo_firstOrder, .int mo_lightest, .int mo_heaviest, .ref mo_before, .long mo_justSum, .long mo_toldSum, .long mo_allWays, .ref mo_lanes, .ref mo_sizes, .ref mo_cells, .int mo_torn, .ref mo_had])), (mo_draft, .inl (k 0, 44, .inl (hst)))] s.heap.size = A at hD ⊢
  have hA : ∀ q : Nat, s.heap.size ≤ q → A q := fun q h => by rw [← hAe]; exact Or.inr h
  have hS : va_S A s.heap s.heap [] := va_S.rf
  have hl := lv_entry ([.ref mo]) (n := 2) (Nat.le_of_ble_eq_true rfl)
  rw [lg_entry_eq]
  generalize (lg_sl ([.ref mo]) ++ List.replicate (2 - (lg_sl ([.ref mo])).length) Slot.unset).toArray = ls at hl ⊢
  have hl : lv_has ls 2 [(0, .ref mo)] := hl
  have hP : va_P D vwCl [(mo, .inr (7, [.ref mo_st, .ref mo_at, .ref mo_isKept, .int mo_people, .int mo_halfMany, .ref mo_draft, .int mo_dPeople, .int mo_dHalves, .int mo_toldLines, .int mo_highest, .ref mo_tape, .int mo_taped, .int mo_pos, .int mo_from, .int mo_sort, .int mo_value, .int mo_fault, .int mo_wrongAt, .ref mo_row, .int mo_orderMany, .int mo_firstOrder, .int mo_lightest, .int mo_heaviest, .ref mo_before, .long mo_justSum, .long mo_toldSum, .long mo_allWays, .ref mo_lanes, .ref mo_sizes, .ref mo_cells, .int mo_torn, .ref mo_had])), (mo_draft, .inl (k 0, 44, .inl (hst)))] s.heap := hP
  refine lv_iconst (v := 0) hx hb dX8_firstDraft_0 (by decide) ?_
  refine lv_istore_n (lv' := [(1, .int 0), (0, .ref mo)]) hx hb dX8_firstDraft_1 rfl hl (by decide) rfl (fun ls hl => ?_)
  refine hs_for 44 (fun i => [(mo, .inr (7, [.ref mo_st, .ref mo_at, .ref mo_isKept, .int mo_people, .int mo_halfMany, .ref mo_draft, .int mo_dPeople, .int mo_dHalves, .int mo_toldLines, .int mo_highest, .ref mo_tape, .int mo_taped, .int mo_pos, .int mo_from, .int mo_sort, .int mo_value, .int mo_fault, .int mo_wrongAt, .ref mo_row, .int mo_orderMany, .int mo_firstOrder, .int mo_lightest, .int mo_heaviest, .ref mo_before, .long mo_justSum, .long mo_toldSum, .long mo_allWays, .ref mo_lanes, .ref mo_sizes, .ref mo_cells, .int mo_torn, .ref mo_had])), (mo_draft, .inl (k 0, 44, .inl (hsfill hsz hst i)))]) (fun i => [(1, .int (nI i)), (0, .ref mo)]) ?_ ?_ (by rw [hsfill_0]; exact hP) (by rw [hsfill_0]; exact hD) hS hl
  · intro i hi ih H locs ls hP hD hS hl
    refine lv_iload_n hx hb dX8_firstDraft_2 rfl (lv_at hl 0 rfl) ?_
    refine lv_bipush (v := 44) hx hb dX8_firstDraft_3 (by decide) ?_
    refine lv_icmp_ge (tgt := 21) hx hb dX8_firstDraft_5 (by decide) (fun c_1 => absurd c_1 (nI_ge (show i < 44 by omega) (by decide))) (fun c_1 => ?_)
    refine lv_aload_n hx hb dX8_firstDraft_8 rfl (lv_at hl 1 rfl) ?_
    refine va_get (D := D) (ci := 7) (v := .ref mo_draft) (C := RX8) (T := TX8) (N := 32) hx hb hts hiX8 hown hK hP 0 rfl rfl 5 (by decide) fl20 (fun _ h9 => h9) rfl dX8_firstDraft_9 ?_
    refine lv_iload_n hx hb dX8_firstDraft_12 rfl (lv_at hl 0 rfl) ?_
    refine lv_iconst (v := 0) hx hb dX8_firstDraft_13 (by decide) ?_
    refine va_iast hx hb hK hP hD hS 1 0 rfl rfl (vp_in_nI (show i < 44 by omega) (by decide)) dX8_firstDraft_14 (fun H locs hP hD hS => ?_)
    have hE : upd (hsfill hsz hst i) ((nI i).toNatClampNeg) 0 = hsfill hsz hst (i + 1) := by rw [nI_clamp (show i < 2 ^ 31 by omega)]; exact hsfill_s hsz hst i
    have hP : va_P D vwCl [(mo, .inr (7, [.ref mo_st, .ref mo_at, .ref mo_isKept, .int mo_people, .int mo_halfMany, .ref mo_draft, .int mo_dPeople, .int mo_dHalves, .int mo_toldLines, .int mo_highest, .ref mo_tape, .int mo_taped, .int mo_pos, .int mo_from, .int mo_sort, .int mo_value, .int mo_fault, .int mo_wrongAt, .ref mo_row, .int mo_orderMany, .int mo_firstOrder, .int mo_lightest, .int mo_heaviest, .ref mo_before, .long mo_justSum, .long mo_toldSum, .long mo_allWays, .ref mo_lanes, .ref mo_sizes, .ref mo_cells, .int mo_torn, .ref mo_had])), (mo_draft, .inl (k 0, 44, .inl (upd (hsfill hsz hst i) ((nI i).toNatClampNeg) 0)))] H := hP
    have hD : va_D A [(mo, .inr (7, [.ref mo_st, .ref mo_at, .ref mo_isKept, .int mo_people, .int mo_halfMany, .ref mo_draft, .int mo_dPeople, .int mo_dHalves, .int mo_toldLines, .int mo_highest, .ref mo_tape, .int mo_taped, .int mo_pos, .int mo_from, .int mo_sort, .int mo_value, .int mo_fault, .int mo_wrongAt, .ref mo_row, .int mo_orderMany, .int mo_firstOrder, .int mo_lightest, .int mo_heaviest, .ref mo_before, .long mo_justSum, .long mo_toldSum, .long mo_allWays, .ref mo_lanes, .ref mo_sizes, .ref mo_cells, .int mo_torn, .ref mo_had])), (mo_draft, .inl (k 0, 44, .inl (upd (hsfill hsz hst i) ((nI i).toNatClampNeg) 0)))] := hD
    rw [hE] at hP hD
    refine lv_iinc (v := nI (i + 1)) (lv' := [(1, .int (nI (i + 1))), (0, .ref mo)]) hx hb dX8_firstDraft_15 hl (k := 0) rfl (by rw [nI_succ]; rfl) (by decide) rfl (fun ls hl => ?_)
    refine lv_goto (tgt := 2) hx hb dX8_firstDraft_18 (by decide) ?_
    exact ih _ _ _ hP hD hS (lv_sub hl [0, 1] rfl)
  · intro H locs ls hP hD hS hl
    have hE : hsfill hsz hst 44 = hsz := hsfill_tz
    have hP : va_P D vwCl [(mo, .inr (7, [.ref mo_st, .ref mo_at, .ref mo_isKept, .int mo_people, .int mo_halfMany, .ref mo_draft, .int mo_dPeople, .int mo_dHalves, .int mo_toldLines, .int mo_highest, .ref mo_tape, .int mo_taped, .int mo_pos, .int mo_from, .int mo_sort, .int mo_value, .int mo_fault, .int mo_wrongAt, .ref mo_row, .int mo_orderMany, .int mo_firstOrder, .int mo_lightest, .int mo_heaviest, .ref mo_before, .long mo_justSum, .long mo_toldSum, .long mo_allWays, .ref mo_lanes, .ref mo_sizes, .ref mo_cells, .int mo_torn, .ref mo_had])), (mo_draft, .inl (k 0, 44, .inl (hsfill hsz hst 44)))] H := hP
    have hD : va_D A [(mo, .inr (7, [.ref mo_st, .ref mo_at, .ref mo_isKept, .int mo_people, .int mo_halfMany, .ref mo_draft, .int mo_dPeople, .int mo_dHalves, .int mo_toldLines, .int mo_highest, .ref mo_tape, .int mo_taped, .int mo_pos, .int mo_from, .int mo_sort, .int mo_value, .int mo_fault, .int mo_wrongAt, .ref mo_row, .int mo_orderMany, .int mo_firstOrder, .int mo_lightest, .int mo_heaviest, .ref mo_before, .long mo_justSum, .long mo_toldSum, .long mo_allWays, .ref mo_lanes, .ref mo_sizes, .ref mo_cells, .int mo_torn, .ref mo_had])), (mo_draft, .inl (k 0, 44, .inl (hsfill hsz hst 44)))] := hD
    rw [hE] at hP hD
    refine lv_iload_n hx hb dX8_firstDraft_2 rfl (lv_at hl 0 rfl) ?_
    refine lv_bipush (v := 44) hx hb dX8_firstDraft_3 (by decide) ?_
    refine lv_icmp_ge (tgt := 21) hx hb dX8_firstDraft_5 (by decide) (fun c_2 => ?_) (fun c_2 => absurd (show (44 : Int32) ≤ nI 44 by decide) c_2)
    refine lv_aload_n hx hb dX8_firstDraft_21 rfl (lv_at hl 1 rfl) ?_
    refine va_get (D := D) (ci := 7) (v := .ref mo_draft) (C := RX8) (T := TX8) (N := 32) hx hb hts hiX8 hown hK hP 0 rfl rfl 5 (by decide) fl20 (fun _ h9 => h9) rfl dX8_firstDraft_22 ?_
    refine lv_iconst (v := 0) hx hb dX8_firstDraft_25 (by decide) ?_
    refine lv_iconst (v := 2) hx hb dX8_firstDraft_26 (by decide) ?_
    refine va_iast hx hb hK hP hD hS 1 0 rfl rfl (hs_in (by decide)) dX8_firstDraft_27 (fun H locs hP hD hS => ?_)
    have hP : va_P D vwCl [(mo, .inr (7, [.ref mo_st, .ref mo_at, .ref mo_isKept, .int mo_people, .int mo_halfMany, .ref mo_draft, .int mo_dPeople, .int mo_dHalves, .int mo_toldLines, .int mo_highest, .ref mo_tape, .int mo_taped, .int mo_pos, .int mo_from, .int mo_sort, .int mo_value, .int mo_fault, .int mo_wrongAt, .ref mo_row, .int mo_orderMany, .int mo_firstOrder, .int mo_lightest, .int mo_heaviest, .ref mo_before, .long mo_justSum, .long mo_toldSum, .long mo_allWays, .ref mo_lanes, .ref mo_sizes, .ref mo_cells, .int mo_torn, .ref mo_had])), (mo_draft, .inl (k 0, 44, .inl (upd hsz 0 2)))] H := hP
    have hD : va_D A [(mo, .inr (7, [.ref mo_st, .ref mo_at, .ref mo_isKept, .int mo_people, .int mo_halfMany, .ref mo_draft, .int mo_dPeople, .int mo_dHalves, .int mo_toldLines, .int mo_highest, .ref mo_tape, .int mo_taped, .int mo_pos, .int mo_from, .int mo_sort, .int mo_value, .int mo_fault, .int mo_wrongAt, .ref mo_row, .int mo_orderMany, .int mo_firstOrder, .int mo_lightest, .int mo_heaviest, .ref mo_before, .long mo_justSum, .long mo_toldSum, .long mo_allWays, .ref mo_lanes, .ref mo_sizes, .ref mo_cells, .int mo_torn, .ref mo_had])), (mo_draft, .inl (k 0, 44, .inl (upd hsz 0 2)))] := hD
    refine lv_aload_n hx hb dX8_firstDraft_28 rfl (lv_at hl 1 rfl) ?_
    refine va_get (D := D) (ci := 7) (v := .ref mo_draft) (C := RX8) (T := TX8) (N := 32) hx hb hts hiX8 hown hK hP 0 rfl rfl 5 (by decide) fl20 (fun _ h9 => h9) rfl dX8_firstDraft_29 ?_
    refine lv_iconst (v := 1) hx hb dX8_firstDraft_32 (by decide) ?_
    refine lv_iconst (v := 1) hx hb dX8_firstDraft_33 (by decide) ?_
    refine va_iast hx hb hK hP hD hS 1 0 rfl rfl (hs_in (by decide)) dX8_firstDraft_34 (fun H locs hP hD hS => ?_)
    have hP : va_P D vwCl [(mo, .inr (7, [.ref mo_st, .ref mo_at, .ref mo_isKept, .int mo_people, .int mo_halfMany, .ref mo_draft, .int mo_dPeople, .int mo_dHalves, .int mo_toldLines, .int mo_highest, .ref mo_tape, .int mo_taped, .int mo_pos, .int mo_from, .int mo_sort, .int mo_value, .int mo_fault, .int mo_wrongAt, .ref mo_row, .int mo_orderMany, .int mo_firstOrder, .int mo_lightest, .int mo_heaviest, .ref mo_before, .long mo_justSum, .long mo_toldSum, .long mo_allWays, .ref mo_lanes, .ref mo_sizes, .ref mo_cells, .int mo_torn, .ref mo_had])), (mo_draft, .inl (k 0, 44, .inl (upd (upd hsz 0 2) 1 1)))] H := hP
    have hD : va_D A [(mo, .inr (7, [.ref mo_st, .ref mo_at, .ref mo_isKept, .int mo_people, .int mo_halfMany, .ref mo_draft, .int mo_dPeople, .int mo_dHalves, .int mo_toldLines, .int mo_highest, .ref mo_tape, .int mo_taped, .int mo_pos, .int mo_from, .int mo_sort, .int mo_value, .int mo_fault, .int mo_wrongAt, .ref mo_row, .int mo_orderMany, .int mo_firstOrder, .int mo_lightest, .int mo_heaviest, .ref mo_before, .long mo_justSum, .long mo_toldSum, .long mo_allWays, .ref mo_lanes, .ref mo_sizes, .ref mo_cells, .int mo_torn, .ref mo_had])), (mo_draft, .inl (k 0, 44, .inl (upd (upd hsz 0 2) 1 1)))] := hD
    refine lv_aload_n hx hb dX8_firstDraft_35 rfl (lv_at hl 1 rfl) ?_
    refine va_get (D := D) (ci := 7) (v := .ref mo_draft) (C := RX8) (T := TX8) (N := 32) hx hb hts hiX8 hown hK hP 0 rfl rfl 5 (by decide) fl20 (fun _ h9 => h9) rfl dX8_firstDraft_36 ?_
    refine lv_iconst (v := 2) hx hb dX8_firstDraft_39 (by decide) ?_
    refine lv_iconst (v := 1) hx hb dX8_firstDraft_40 (by decide) ?_
    refine va_iast hx hb hK hP hD hS 1 0 rfl rfl (hs_in (by decide)) dX8_firstDraft_41 (fun H locs hP hD hS => ?_)
    have hE : upd (upd (upd hsz 0 2) 1 1) 2 1 = hst := rfl
    have hP : va_P D vwCl [(mo, .inr (7, [.ref mo_st, .ref mo_at, .ref mo_isKept, .int mo_people, .int mo_halfMany, .ref mo_draft, .int mo_dPeople, .int mo_dHalves, .int mo_toldLines, .int mo_highest, .ref mo_tape, .int mo_taped, .int mo_pos, .int mo_from, .int mo_sort, .int mo_value, .int mo_fault, .int mo_wrongAt, .ref mo_row, .int mo_orderMany, .int mo_firstOrder, .int mo_lightest, .int mo_heaviest, .ref mo_before, .long mo_justSum, .long mo_toldSum, .long mo_allWays, .ref mo_lanes, .ref mo_sizes, .ref mo_cells, .int mo_torn, .ref mo_had])), (mo_draft, .inl (k 0, 44, .inl (upd (upd (upd hsz 0 2) 1 1) 2 1)))] H := hP
    have hD : va_D A [(mo, .inr (7, [.ref mo_st, .ref mo_at, .ref mo_isKept, .int mo_people, .int mo_halfMany, .ref mo_draft, .int mo_dPeople, .int mo_dHalves, .int mo_toldLines, .int mo_highest, .ref mo_tape, .int mo_taped, .int mo_pos, .int mo_from, .int mo_sort, .int mo_value, .int mo_fault, .int mo_wrongAt, .ref mo_row, .int mo_orderMany, .int mo_firstOrder, .int mo_lightest, .int mo_heaviest, .ref mo_before, .long mo_justSum, .long mo_toldSum, .long mo_allWays, .ref mo_lanes, .ref mo_sizes, .ref mo_cells, .int mo_torn, .ref mo_had])), (mo_draft, .inl (k 0, 44, .inl (upd (upd (upd hsz 0 2) 1 1) 2 1)))] := hD
    rw [hE] at hP hD
    refine lv_aload_n hx hb dX8_firstDraft_42 rfl (lv_at hl 1 rfl) ?_
    refine lv_iconst (v := 0) hx hb dX8_firstDraft_43 (by decide) ?_
    refine va_put (D := D) (ci := 7) (v := .int 0) (ty := .int) (C := RX8) (T := TX8) (N := 32) hx hb hts hiX8 tyX8 tyX8_ok nmX8 hown hK hP hD hS 0 rfl rfl 6 (by decide) fl50 (fun _ h9 => h9) rfl (by decide +kernel) rfl rfl (Nat.le_of_ble_eq_true rfl) dX8_firstDraft_44 (fun H locs hP hD hS => ?_)
    have hP : va_P D vwCl [(mo, .inr (7, [.ref mo_st, .ref mo_at, .ref mo_isKept, .int mo_people, .int mo_halfMany, .ref mo_draft, .int 0, .int mo_dHalves, .int mo_toldLines, .int mo_highest, .ref mo_tape, .int mo_taped, .int mo_pos, .int mo_from, .int mo_sort, .int mo_value, .int mo_fault, .int mo_wrongAt, .ref mo_row, .int mo_orderMany, .int mo_firstOrder, .int mo_lightest, .int mo_heaviest, .ref mo_before, .long mo_justSum, .long mo_toldSum, .long mo_allWays, .ref mo_lanes, .ref mo_sizes, .ref mo_cells, .int mo_torn, .ref mo_had])), (mo_draft, .inl (k 0, 44, .inl (hst)))] H := hP
    have hD : va_D A [(mo, .inr (7, [.ref mo_st, .ref mo_at, .ref mo_isKept, .int mo_people, .int mo_halfMany, .ref mo_draft, .int 0, .int mo_dHalves, .int mo_toldLines, .int mo_highest, .ref mo_tape, .int mo_taped, .int mo_pos, .int mo_from, .int mo_sort, .int mo_value, .int mo_fault, .int mo_wrongAt, .ref mo_row, .int mo_orderMany, .int mo_firstOrder, .int mo_lightest, .int mo_heaviest, .ref mo_before, .long mo_justSum, .long mo_toldSum, .long mo_allWays, .ref mo_lanes, .ref mo_sizes, .ref mo_cells, .int mo_torn, .ref mo_had])), (mo_draft, .inl (k 0, 44, .inl (hst)))] := hD
    refine lv_aload_n hx hb dX8_firstDraft_47 rfl (lv_at hl 1 rfl) ?_
    refine lv_iconst (v := 2) hx hb dX8_firstDraft_48 (by decide) ?_
    refine va_put (D := D) (ci := 7) (v := .int 2) (ty := .int) (C := RX8) (T := TX8) (N := 32) hx hb hts hiX8 tyX8 tyX8_ok nmX8 hown hK hP hD hS 0 rfl rfl 7 (by decide) fl54 (fun _ h9 => h9) rfl (by decide +kernel) rfl rfl (Nat.le_of_ble_eq_true rfl) dX8_firstDraft_49 (fun H locs hP hD hS => ?_)
    have hP : va_P D vwCl [(mo, .inr (7, [.ref mo_st, .ref mo_at, .ref mo_isKept, .int mo_people, .int mo_halfMany, .ref mo_draft, .int 0, .int 2, .int mo_toldLines, .int mo_highest, .ref mo_tape, .int mo_taped, .int mo_pos, .int mo_from, .int mo_sort, .int mo_value, .int mo_fault, .int mo_wrongAt, .ref mo_row, .int mo_orderMany, .int mo_firstOrder, .int mo_lightest, .int mo_heaviest, .ref mo_before, .long mo_justSum, .long mo_toldSum, .long mo_allWays, .ref mo_lanes, .ref mo_sizes, .ref mo_cells, .int mo_torn, .ref mo_had])), (mo_draft, .inl (k 0, 44, .inl (hst)))] H := hP
    have hD : va_D A [(mo, .inr (7, [.ref mo_st, .ref mo_at, .ref mo_isKept, .int mo_people, .int mo_halfMany, .ref mo_draft, .int 0, .int 2, .int mo_toldLines, .int mo_highest, .ref mo_tape, .int mo_taped, .int mo_pos, .int mo_from, .int mo_sort, .int mo_value, .int mo_fault, .int mo_wrongAt, .ref mo_row, .int mo_orderMany, .int mo_firstOrder, .int mo_lightest, .int mo_heaviest, .ref mo_before, .long mo_justSum, .long mo_toldSum, .long mo_allWays, .ref mo_lanes, .ref mo_sizes, .ref mo_cells, .int mo_torn, .ref mo_had])), (mo_draft, .inl (k 0, 44, .inl (hst)))] := hD
    refine lv_aload_n hx hb dX8_firstDraft_52 rfl (lv_at hl 1 rfl) ?_
    refine lv_iconst (v := 0) hx hb dX8_firstDraft_53 (by decide) ?_
    refine va_put (D := D) (ci := 7) (v := .int 0) (ty := .int) (C := RX8) (T := TX8) (N := 32) hx hb hts hiX8 tyX8 tyX8_ok nmX8 hown hK hP hD hS 0 rfl rfl 8 (by decide) fl57 (fun _ h9 => h9) rfl (by decide +kernel) rfl rfl (Nat.le_of_ble_eq_true rfl) dX8_firstDraft_54 (fun H locs hP hD hS => ?_)
    have hP : va_P D vwCl [(mo, .inr (7, [.ref mo_st, .ref mo_at, .ref mo_isKept, .int mo_people, .int mo_halfMany, .ref mo_draft, .int 0, .int 2, .int 0, .int mo_highest, .ref mo_tape, .int mo_taped, .int mo_pos, .int mo_from, .int mo_sort, .int mo_value, .int mo_fault, .int mo_wrongAt, .ref mo_row, .int mo_orderMany, .int mo_firstOrder, .int mo_lightest, .int mo_heaviest, .ref mo_before, .long mo_justSum, .long mo_toldSum, .long mo_allWays, .ref mo_lanes, .ref mo_sizes, .ref mo_cells, .int mo_torn, .ref mo_had])), (mo_draft, .inl (k 0, 44, .inl (hst)))] H := hP
    have hD : va_D A [(mo, .inr (7, [.ref mo_st, .ref mo_at, .ref mo_isKept, .int mo_people, .int mo_halfMany, .ref mo_draft, .int 0, .int 2, .int 0, .int mo_highest, .ref mo_tape, .int mo_taped, .int mo_pos, .int mo_from, .int mo_sort, .int mo_value, .int mo_fault, .int mo_wrongAt, .ref mo_row, .int mo_orderMany, .int mo_firstOrder, .int mo_lightest, .int mo_heaviest, .ref mo_before, .long mo_justSum, .long mo_toldSum, .long mo_allWays, .ref mo_lanes, .ref mo_sizes, .ref mo_cells, .int mo_torn, .ref mo_had])), (mo_draft, .inl (k 0, 44, .inl (hst)))] := hD
    refine lv_aload_n hx hb dX8_firstDraft_57 rfl (lv_at hl 1 rfl) ?_
    refine lv_bipush (v := (-4)) hx hb dX8_firstDraft_58 (by decide) ?_
    refine va_put (D := D) (ci := 7) (v := .int (-4)) (ty := .int) (C := RX8) (T := TX8) (N := 32) hx hb hts hiX8 tyX8 tyX8_ok nmX8 hown hK hP hD hS 0 rfl rfl 9 (by decide) fl60 (fun _ h9 => h9) rfl (by decide +kernel) rfl rfl (Nat.le_of_ble_eq_true rfl) dX8_firstDraft_60 (fun H locs hP hD hS => ?_)
    have hP : va_P D vwCl [(mo, .inr (7, [.ref mo_st, .ref mo_at, .ref mo_isKept, .int mo_people, .int mo_halfMany, .ref mo_draft, .int 0, .int 2, .int 0, .int (-4), .ref mo_tape, .int mo_taped, .int mo_pos, .int mo_from, .int mo_sort, .int mo_value, .int mo_fault, .int mo_wrongAt, .ref mo_row, .int mo_orderMany, .int mo_firstOrder, .int mo_lightest, .int mo_heaviest, .ref mo_before, .long mo_justSum, .long mo_toldSum, .long mo_allWays, .ref mo_lanes, .ref mo_sizes, .ref mo_cells, .int mo_torn, .ref mo_had])), (mo_draft, .inl (k 0, 44, .inl (hst)))] H := hP
    have hD : va_D A [(mo, .inr (7, [.ref mo_st, .ref mo_at, .ref mo_isKept, .int mo_people, .int mo_halfMany, .ref mo_draft, .int 0, .int 2, .int 0, .int (-4), .ref mo_tape, .int mo_taped, .int mo_pos, .int mo_from, .int mo_sort, .int mo_value, .int mo_fault, .int mo_wrongAt, .ref mo_row, .int mo_orderMany, .int mo_firstOrder, .int mo_lightest, .int mo_heaviest, .ref mo_before, .long mo_justSum, .long mo_toldSum, .long mo_allWays, .ref mo_lanes, .ref mo_sizes, .ref mo_cells, .int mo_torn, .ref mo_had])), (mo_draft, .inl (k 0, 44, .inl (hst)))] := hD
    exact hs_vret hx hb hr hlocks hK hP hD hS () [0, 1] rfl (by decide) dX8_firstDraft_63 (trivial)

set_option maxHeartbeats 4000000 in
set_option maxRecDepth 100000 in
theorem m_keepDraft_t (l : Launch) (D : va_G) (k : Nat → ClassId) (sz : Nat) (mo : Nat) (mo_st : Nat) (mo_at : Nat) (mo_isKept : Nat) (mo_people : Int32) (mo_halfMany : Int32) (mo_draft : Nat) (mo_dPeople : Int32) (mo_dHalves : Int32) (mo_toldLines : Int32) (mo_highest : Int32) (mo_tape : Nat) (mo_taped : Int32) (mo_pos : Int32) (mo_from : Int32) (mo_sort : Int32) (mo_value : Int32) (mo_fault : Int32) (mo_wrongAt : Int32) (mo_row : Nat) (mo_orderMany : Int32) (mo_firstOrder : Int32) (mo_lightest : Int32) (mo_heaviest : Int32) (mo_before : Nat) (mo_justSum : Int64) (mo_toldSum : Int64) (mo_allWays : Int64) (mo_lanes : Nat) (mo_sizes : Nat) (mo_cells : Nat) (mo_torn : Int32) (mo_had : Nat)  : MV l yX8_keepDraft wsX8_keepDraft ({ frames := 0, cells := 0, slots := 0, locals := 0 }) D k [.ref mo] [(mo, .inr (7, [.ref mo_st, .ref mo_at, .ref mo_isKept, .int mo_people, .int mo_halfMany, .ref mo_draft, .int mo_dPeople, .int mo_dHalves, .int mo_toldLines, .int mo_highest, .ref mo_tape, .int mo_taped, .int mo_pos, .int mo_from, .int mo_sort, .int mo_value, .int mo_fault, .int mo_wrongAt, .ref mo_row, .int mo_orderMany, .int mo_firstOrder, .int mo_lightest, .int mo_heaviest, .ref mo_before, .long mo_justSum, .long mo_toldSum, .long mo_allWays, .ref mo_lanes, .ref mo_sizes, .ref mo_cells, .int mo_torn, .ref mo_had])), (mo_st, .inl (k 0, 132, .inl (hst))), (mo_isKept, .inl (k 2, 2, .inl (hsz))), (mo_draft, .inl (k 0, 44, .inl (hst)))] sz (fun (u : Unit) => True) (fun (u : Unit) => [(mo, .inr (7, [.ref mo_st, .ref mo_at, .ref mo_isKept, .int mo_dPeople, .int mo_dHalves, .ref mo_draft, .int mo_dPeople, .int mo_dHalves, .int mo_toldLines, .int mo_highest, .ref mo_tape, .int mo_taped, .int mo_pos, .int mo_from, .int mo_sort, .int mo_value, .int mo_fault, .int mo_wrongAt, .ref mo_row, .int mo_orderMany, .int mo_firstOrder, .int mo_lightest, .int mo_heaviest, .ref mo_before, .long mo_justSum, .long mo_toldSum, .long mo_allWays, .ref mo_lanes, .ref mo_sizes, .ref mo_cells, .int mo_torn, .ref mo_had])), (mo_st, .inl (k 0, 132, .inl (hst))), (mo_isKept, .inl (k 2, 2, .inl (hsz))), (mo_draft, .inl (k 0, 44, .inl (hst)))]) := by
  refine Met.ofW (cc := cX8_keepDraft) (maxL := 2) (ret := none) (by decide) rfl ?_
  intro p e s m args below meth c s₁ B hml hv
  obtain ⟨rfl, hsz, hP, hK, hD0, hN⟩ := hv
  have hx := B.exec
  have hb := B.bytes
  have hr := B.returns
  have hlocks := B.notSynchronized
  have hts := atoms_spec (ws := wsX8_keepDraft) B.pre
  have hown : s.vm.findClass RX8 = some m.cls := findClass_of_methodNamed B.named
  have hiX8 : ∀ w ∈ u_ws RX8 TX8 32, w ∈ wsX8_keepDraft := by decide +kernel
  have fl7 := hts (.fieldLink RX8 7 "HalfScalesModel" "st" "[I") (by decide +kernel)
  have fl20 := hts (.fieldLink RX8 20 "HalfScalesModel" "draft" "[I") (by decide +kernel)
  have fl50 := hts (.fieldLink RX8 50 "HalfScalesModel" "dPeople" "I") (by decide +kernel)
  have fl63 := hts (.fieldLink RX8 63 "HalfScalesModel" "people" "I") (by decide +kernel)
  have fl54 := hts (.fieldLink RX8 54 "HalfScalesModel" "dHalves" "I") (by decide +kernel)
  have fl66 := hts (.fieldLink RX8 66 "HalfScalesModel" "halfMany" "I") (by decide +kernel)
  have fl16 := hts (.fieldLink RX8 16 "HalfScalesModel" "isKept" "[Z") (by decide +kernel)
  subst hsz
  have hD := hD0.self (sz := s.heap.size)
  generalize hAe : va_A [(mo, .inr (7, [.ref mo_st, .ref mo_at, .ref mo_isKept, .int mo_people, .int mo_halfMany, .ref mo_draft, .int mo_dPeople, .int mo_dHalves, .int mo_toldLines, .int mo_highest, .ref mo_tape, .int mo_taped, .int mo_pos, .int mo_from, .int mo_sort, .int mo_value, .int mo_fault, .int mo_wrongAt, .ref mo_row, .int mo_orderMany, .int mo_firstOrder, .int mo_lightest, .int mo_heaviest, .ref mo_before, .long mo_justSum, .long mo_toldSum, .long mo_allWays, .ref mo_lanes, .ref mo_sizes, .ref mo_cells, .int mo_torn, .ref mo_had])), (mo_st, .inl (k 0, 132, .inl (hst))), (mo_isKept, .inl (k 2, 2, .inl (hsz))), (mo_draft, .inl (k 0, 44, .inl (hst)))] s.heap.size = A at hD ⊢
  have hA : ∀ q : Nat, s.heap.size ≤ q → A q := fun q h => by rw [← hAe]; exact Or.inr h
  have hS : va_S A s.heap s.heap [] := va_S.rf
  have hl := lv_entry ([.ref mo]) (n := 2) (Nat.le_of_ble_eq_true rfl)
  rw [lg_entry_eq]
  generalize (lg_sl ([.ref mo]) ++ List.replicate (2 - (lg_sl ([.ref mo])).length) Slot.unset).toArray = ls at hl ⊢
  have hl : lv_has ls 2 [(0, .ref mo)] := hl
  have hP : va_P D vwCl [(mo, .inr (7, [.ref mo_st, .ref mo_at, .ref mo_isKept, .int mo_people, .int mo_halfMany, .ref mo_draft, .int mo_dPeople, .int mo_dHalves, .int mo_toldLines, .int mo_highest, .ref mo_tape, .int mo_taped, .int mo_pos, .int mo_from, .int mo_sort, .int mo_value, .int mo_fault, .int mo_wrongAt, .ref mo_row, .int mo_orderMany, .int mo_firstOrder, .int mo_lightest, .int mo_heaviest, .ref mo_before, .long mo_justSum, .long mo_toldSum, .long mo_allWays, .ref mo_lanes, .ref mo_sizes, .ref mo_cells, .int mo_torn, .ref mo_had])), (mo_st, .inl (k 0, 132, .inl (hst))), (mo_isKept, .inl (k 2, 2, .inl (hsz))), (mo_draft, .inl (k 0, 44, .inl (hst)))] s.heap := hP
  refine lv_iconst (v := 0) hx hb dX8_keepDraft_0 (by decide) ?_
  refine lv_istore_n (lv' := [(1, .int 0), (0, .ref mo)]) hx hb dX8_keepDraft_1 rfl hl (by decide) rfl (fun ls hl => ?_)
  refine hs_for 44 (fun i => [(mo, .inr (7, [.ref mo_st, .ref mo_at, .ref mo_isKept, .int mo_people, .int mo_halfMany, .ref mo_draft, .int mo_dPeople, .int mo_dHalves, .int mo_toldLines, .int mo_highest, .ref mo_tape, .int mo_taped, .int mo_pos, .int mo_from, .int mo_sort, .int mo_value, .int mo_fault, .int mo_wrongAt, .ref mo_row, .int mo_orderMany, .int mo_firstOrder, .int mo_lightest, .int mo_heaviest, .ref mo_before, .long mo_justSum, .long mo_toldSum, .long mo_allWays, .ref mo_lanes, .ref mo_sizes, .ref mo_cells, .int mo_torn, .ref mo_had])), (mo_st, .inl (k 0, 132, .inl (hsfill hst hst i))), (mo_isKept, .inl (k 2, 2, .inl (hsz))), (mo_draft, .inl (k 0, 44, .inl (hst)))]) (fun i => [(1, .int (nI i)), (0, .ref mo)]) ?_ ?_ (by rw [hsfill_0]; exact hP) (by rw [hsfill_0]; exact hD) hS hl
  · intro i hi ih H locs ls hP hD hS hl
    refine lv_iload_n hx hb dX8_keepDraft_2 rfl (lv_at hl 0 rfl) ?_
    refine lv_bipush (v := 44) hx hb dX8_keepDraft_3 (by decide) ?_
    refine lv_icmp_ge (tgt := 26) hx hb dX8_keepDraft_5 (by decide) (fun c_1 => absurd c_1 (nI_ge (show i < 44 by omega) (by decide))) (fun c_1 => ?_)
    refine lv_aload_n hx hb dX8_keepDraft_8 rfl (lv_at hl 1 rfl) ?_
    refine va_get (D := D) (ci := 7) (v := .ref mo_st) (C := RX8) (T := TX8) (N := 32) hx hb hts hiX8 hown hK hP 0 rfl rfl 0 (by decide) fl7 (fun _ h9 => h9) rfl dX8_keepDraft_9 ?_
    refine lv_iload_n hx hb dX8_keepDraft_12 rfl (lv_at hl 0 rfl) ?_
    refine lv_aload_n hx hb dX8_keepDraft_13 rfl (lv_at hl 1 rfl) ?_
    refine va_get (D := D) (ci := 7) (v := .ref mo_draft) (C := RX8) (T := TX8) (N := 32) hx hb hts hiX8 hown hK hP 0 rfl rfl 5 (by decide) fl20 (fun _ h9 => h9) rfl dX8_keepDraft_14 ?_
    refine lv_iload_n hx hb dX8_keepDraft_17 rfl (lv_at hl 0 rfl) ?_
    refine va_iald hx hb hK hP 3 0 rfl rfl (vp_in_nI (show i < 44 by omega) (by decide)) dX8_keepDraft_18 ?_
    refine va_iast hx hb hK hP hD hS 1 0 rfl rfl (vp_in_nI (show i < 132 by omega) (by decide)) dX8_keepDraft_19 (fun H locs hP hD hS => ?_)
    have hE : upd (hsfill hst hst i) ((nI i).toNatClampNeg) (hst (nI i).toNatClampNeg) = hsfill hst hst (i + 1) := by rw [nI_clamp (show i < 2 ^ 31 by omega)]; exact hsfill_s hst hst i
    have hP : va_P D vwCl [(mo, .inr (7, [.ref mo_st, .ref mo_at, .ref mo_isKept, .int mo_people, .int mo_halfMany, .ref mo_draft, .int mo_dPeople, .int mo_dHalves, .int mo_toldLines, .int mo_highest, .ref mo_tape, .int mo_taped, .int mo_pos, .int mo_from, .int mo_sort, .int mo_value, .int mo_fault, .int mo_wrongAt, .ref mo_row, .int mo_orderMany, .int mo_firstOrder, .int mo_lightest, .int mo_heaviest, .ref mo_before, .long mo_justSum, .long mo_toldSum, .long mo_allWays, .ref mo_lanes, .ref mo_sizes, .ref mo_cells, .int mo_torn, .ref mo_had])), (mo_st, .inl (k 0, 132, .inl (upd (hsfill hst hst i) ((nI i).toNatClampNeg) (hst (nI i).toNatClampNeg)))), (mo_isKept, .inl (k 2, 2, .inl (hsz))), (mo_draft, .inl (k 0, 44, .inl (hst)))] H := hP
    have hD : va_D A [(mo, .inr (7, [.ref mo_st, .ref mo_at, .ref mo_isKept, .int mo_people, .int mo_halfMany, .ref mo_draft, .int mo_dPeople, .int mo_dHalves, .int mo_toldLines, .int mo_highest, .ref mo_tape, .int mo_taped, .int mo_pos, .int mo_from, .int mo_sort, .int mo_value, .int mo_fault, .int mo_wrongAt, .ref mo_row, .int mo_orderMany, .int mo_firstOrder, .int mo_lightest, .int mo_heaviest, .ref mo_before, .long mo_justSum, .long mo_toldSum, .long mo_allWays, .ref mo_lanes, .ref mo_sizes, .ref mo_cells, .int mo_torn, .ref mo_had])), (mo_st, .inl (k 0, 132, .inl (upd (hsfill hst hst i) ((nI i).toNatClampNeg) (hst (nI i).toNatClampNeg)))), (mo_isKept, .inl (k 2, 2, .inl (hsz))), (mo_draft, .inl (k 0, 44, .inl (hst)))] := hD
    rw [hE] at hP hD
    refine lv_iinc (v := nI (i + 1)) (lv' := [(1, .int (nI (i + 1))), (0, .ref mo)]) hx hb dX8_keepDraft_20 hl (k := 0) rfl (by rw [nI_succ]; rfl) (by decide) rfl (fun ls hl => ?_)
    refine lv_goto (tgt := 2) hx hb dX8_keepDraft_23 (by decide) ?_
    exact ih _ _ _ hP hD hS (lv_sub hl [0, 1] rfl)
  · intro H locs ls hP hD hS hl
    have hE : hsfill hst hst 44 = hst := hsfill_tt
    have hP : va_P D vwCl [(mo, .inr (7, [.ref mo_st, .ref mo_at, .ref mo_isKept, .int mo_people, .int mo_halfMany, .ref mo_draft, .int mo_dPeople, .int mo_dHalves, .int mo_toldLines, .int mo_highest, .ref mo_tape, .int mo_taped, .int mo_pos, .int mo_from, .int mo_sort, .int mo_value, .int mo_fault, .int mo_wrongAt, .ref mo_row, .int mo_orderMany, .int mo_firstOrder, .int mo_lightest, .int mo_heaviest, .ref mo_before, .long mo_justSum, .long mo_toldSum, .long mo_allWays, .ref mo_lanes, .ref mo_sizes, .ref mo_cells, .int mo_torn, .ref mo_had])), (mo_st, .inl (k 0, 132, .inl (hsfill hst hst 44))), (mo_isKept, .inl (k 2, 2, .inl (hsz))), (mo_draft, .inl (k 0, 44, .inl (hst)))] H := hP
    have hD : va_D A [(mo, .inr (7, [.ref mo_st, .ref mo_at, .ref mo_isKept, .int mo_people, .int mo_halfMany, .ref mo_draft, .int mo_dPeople, .int mo_dHalves, .int mo_toldLines, .int mo_highest, .ref mo_tape, .int mo_taped, .int mo_pos, .int mo_from, .int mo_sort, .int mo_value, .int mo_fault, .int mo_wrongAt, .ref mo_row, .int mo_orderMany, .int mo_firstOrder, .int mo_lightest, .int mo_heaviest, .ref mo_before, .long mo_justSum, .long mo_toldSum, .long mo_allWays, .ref mo_lanes, .ref mo_sizes, .ref mo_cells, .int mo_torn, .ref mo_had])), (mo_st, .inl (k 0, 132, .inl (hsfill hst hst 44))), (mo_isKept, .inl (k 2, 2, .inl (hsz))), (mo_draft, .inl (k 0, 44, .inl (hst)))] := hD
    rw [hE] at hP hD
    refine lv_iload_n hx hb dX8_keepDraft_2 rfl (lv_at hl 0 rfl) ?_
    refine lv_bipush (v := 44) hx hb dX8_keepDraft_3 (by decide) ?_
    refine lv_icmp_ge (tgt := 26) hx hb dX8_keepDraft_5 (by decide) (fun c_2 => ?_) (fun c_2 => absurd (show (44 : Int32) ≤ nI 44 by decide) c_2)
    refine lv_aload_n hx hb dX8_keepDraft_26 rfl (lv_at hl 1 rfl) ?_
    refine lv_aload_n hx hb dX8_keepDraft_27 rfl (lv_at hl 1 rfl) ?_
    refine va_get (D := D) (ci := 7) (v := .int mo_dPeople) (C := RX8) (T := TX8) (N := 32) hx hb hts hiX8 hown hK hP 0 rfl rfl 6 (by decide) fl50 (fun _ h9 => h9) rfl dX8_keepDraft_28 ?_
    refine va_put (D := D) (ci := 7) (v := .int mo_dPeople) (ty := .int) (C := RX8) (T := TX8) (N := 32) hx hb hts hiX8 tyX8 tyX8_ok nmX8 hown hK hP hD hS 0 rfl rfl 3 (by decide) fl63 (fun _ h9 => h9) rfl (by decide +kernel) rfl rfl (Nat.le_of_ble_eq_true rfl) dX8_keepDraft_31 (fun H locs hP hD hS => ?_)
    have hP : va_P D vwCl [(mo, .inr (7, [.ref mo_st, .ref mo_at, .ref mo_isKept, .int mo_dPeople, .int mo_halfMany, .ref mo_draft, .int mo_dPeople, .int mo_dHalves, .int mo_toldLines, .int mo_highest, .ref mo_tape, .int mo_taped, .int mo_pos, .int mo_from, .int mo_sort, .int mo_value, .int mo_fault, .int mo_wrongAt, .ref mo_row, .int mo_orderMany, .int mo_firstOrder, .int mo_lightest, .int mo_heaviest, .ref mo_before, .long mo_justSum, .long mo_toldSum, .long mo_allWays, .ref mo_lanes, .ref mo_sizes, .ref mo_cells, .int mo_torn, .ref mo_had])), (mo_st, .inl (k 0, 132, .inl (hst))), (mo_isKept, .inl (k 2, 2, .inl (hsz))), (mo_draft, .inl (k 0, 44, .inl (hst)))] H := hP
    have hD : va_D A [(mo, .inr (7, [.ref mo_st, .ref mo_at, .ref mo_isKept, .int mo_dPeople, .int mo_halfMany, .ref mo_draft, .int mo_dPeople, .int mo_dHalves, .int mo_toldLines, .int mo_highest, .ref mo_tape, .int mo_taped, .int mo_pos, .int mo_from, .int mo_sort, .int mo_value, .int mo_fault, .int mo_wrongAt, .ref mo_row, .int mo_orderMany, .int mo_firstOrder, .int mo_lightest, .int mo_heaviest, .ref mo_before, .long mo_justSum, .long mo_toldSum, .long mo_allWays, .ref mo_lanes, .ref mo_sizes, .ref mo_cells, .int mo_torn, .ref mo_had])), (mo_st, .inl (k 0, 132, .inl (hst))), (mo_isKept, .inl (k 2, 2, .inl (hsz))), (mo_draft, .inl (k 0, 44, .inl (hst)))] := hD
    refine lv_aload_n hx hb dX8_keepDraft_34 rfl (lv_at hl 1 rfl) ?_
    refine lv_aload_n hx hb dX8_keepDraft_35 rfl (lv_at hl 1 rfl) ?_
    refine va_get (D := D) (ci := 7) (v := .int mo_dHalves) (C := RX8) (T := TX8) (N := 32) hx hb hts hiX8 hown hK hP 0 rfl rfl 7 (by decide) fl54 (fun _ h9 => h9) rfl dX8_keepDraft_36 ?_
    refine va_put (D := D) (ci := 7) (v := .int mo_dHalves) (ty := .int) (C := RX8) (T := TX8) (N := 32) hx hb hts hiX8 tyX8 tyX8_ok nmX8 hown hK hP hD hS 0 rfl rfl 4 (by decide) fl66 (fun _ h9 => h9) rfl (by decide +kernel) rfl rfl (Nat.le_of_ble_eq_true rfl) dX8_keepDraft_39 (fun H locs hP hD hS => ?_)
    have hP : va_P D vwCl [(mo, .inr (7, [.ref mo_st, .ref mo_at, .ref mo_isKept, .int mo_dPeople, .int mo_dHalves, .ref mo_draft, .int mo_dPeople, .int mo_dHalves, .int mo_toldLines, .int mo_highest, .ref mo_tape, .int mo_taped, .int mo_pos, .int mo_from, .int mo_sort, .int mo_value, .int mo_fault, .int mo_wrongAt, .ref mo_row, .int mo_orderMany, .int mo_firstOrder, .int mo_lightest, .int mo_heaviest, .ref mo_before, .long mo_justSum, .long mo_toldSum, .long mo_allWays, .ref mo_lanes, .ref mo_sizes, .ref mo_cells, .int mo_torn, .ref mo_had])), (mo_st, .inl (k 0, 132, .inl (hst))), (mo_isKept, .inl (k 2, 2, .inl (hsz))), (mo_draft, .inl (k 0, 44, .inl (hst)))] H := hP
    have hD : va_D A [(mo, .inr (7, [.ref mo_st, .ref mo_at, .ref mo_isKept, .int mo_dPeople, .int mo_dHalves, .ref mo_draft, .int mo_dPeople, .int mo_dHalves, .int mo_toldLines, .int mo_highest, .ref mo_tape, .int mo_taped, .int mo_pos, .int mo_from, .int mo_sort, .int mo_value, .int mo_fault, .int mo_wrongAt, .ref mo_row, .int mo_orderMany, .int mo_firstOrder, .int mo_lightest, .int mo_heaviest, .ref mo_before, .long mo_justSum, .long mo_toldSum, .long mo_allWays, .ref mo_lanes, .ref mo_sizes, .ref mo_cells, .int mo_torn, .ref mo_had])), (mo_st, .inl (k 0, 132, .inl (hst))), (mo_isKept, .inl (k 2, 2, .inl (hsz))), (mo_draft, .inl (k 0, 44, .inl (hst)))] := hD
    refine lv_aload_n hx hb dX8_keepDraft_42 rfl (lv_at hl 1 rfl) ?_
    refine va_get (D := D) (ci := 7) (v := .ref mo_isKept) (C := RX8) (T := TX8) (N := 32) hx hb hts hiX8 hown hK hP 0 rfl rfl 2 (by decide) fl16 (fun _ h9 => h9) rfl dX8_keepDraft_43 ?_
    refine lv_iconst (v := 0) hx hb dX8_keepDraft_46 (by decide) ?_
    refine lv_iconst (v := 0) hx hb dX8_keepDraft_47 (by decide) ?_
    refine va_zast hx hb hK hP hD hS 2 2 rfl rfl (hs_in (by decide)) dX8_keepDraft_48 (fun H locs hP hD hS => ?_)
    have hE : upd hsz 0 0 = hsz := hs_uz 0
    have hP : va_P D vwCl [(mo, .inr (7, [.ref mo_st, .ref mo_at, .ref mo_isKept, .int mo_dPeople, .int mo_dHalves, .ref mo_draft, .int mo_dPeople, .int mo_dHalves, .int mo_toldLines, .int mo_highest, .ref mo_tape, .int mo_taped, .int mo_pos, .int mo_from, .int mo_sort, .int mo_value, .int mo_fault, .int mo_wrongAt, .ref mo_row, .int mo_orderMany, .int mo_firstOrder, .int mo_lightest, .int mo_heaviest, .ref mo_before, .long mo_justSum, .long mo_toldSum, .long mo_allWays, .ref mo_lanes, .ref mo_sizes, .ref mo_cells, .int mo_torn, .ref mo_had])), (mo_st, .inl (k 0, 132, .inl (hst))), (mo_isKept, .inl (k 2, 2, .inl (upd hsz 0 0))), (mo_draft, .inl (k 0, 44, .inl (hst)))] H := hP
    have hD : va_D A [(mo, .inr (7, [.ref mo_st, .ref mo_at, .ref mo_isKept, .int mo_dPeople, .int mo_dHalves, .ref mo_draft, .int mo_dPeople, .int mo_dHalves, .int mo_toldLines, .int mo_highest, .ref mo_tape, .int mo_taped, .int mo_pos, .int mo_from, .int mo_sort, .int mo_value, .int mo_fault, .int mo_wrongAt, .ref mo_row, .int mo_orderMany, .int mo_firstOrder, .int mo_lightest, .int mo_heaviest, .ref mo_before, .long mo_justSum, .long mo_toldSum, .long mo_allWays, .ref mo_lanes, .ref mo_sizes, .ref mo_cells, .int mo_torn, .ref mo_had])), (mo_st, .inl (k 0, 132, .inl (hst))), (mo_isKept, .inl (k 2, 2, .inl (upd hsz 0 0))), (mo_draft, .inl (k 0, 44, .inl (hst)))] := hD
    rw [hE] at hP hD
    refine lv_aload_n hx hb dX8_keepDraft_49 rfl (lv_at hl 1 rfl) ?_
    refine va_get (D := D) (ci := 7) (v := .ref mo_isKept) (C := RX8) (T := TX8) (N := 32) hx hb hts hiX8 hown hK hP 0 rfl rfl 2 (by decide) fl16 (fun _ h9 => h9) rfl dX8_keepDraft_50 ?_
    refine lv_iconst (v := 1) hx hb dX8_keepDraft_53 (by decide) ?_
    refine lv_iconst (v := 0) hx hb dX8_keepDraft_54 (by decide) ?_
    refine va_zast hx hb hK hP hD hS 2 2 rfl rfl (hs_in (by decide)) dX8_keepDraft_55 (fun H locs hP hD hS => ?_)
    have hE : upd hsz 1 0 = hsz := hs_uz 1
    have hP : va_P D vwCl [(mo, .inr (7, [.ref mo_st, .ref mo_at, .ref mo_isKept, .int mo_dPeople, .int mo_dHalves, .ref mo_draft, .int mo_dPeople, .int mo_dHalves, .int mo_toldLines, .int mo_highest, .ref mo_tape, .int mo_taped, .int mo_pos, .int mo_from, .int mo_sort, .int mo_value, .int mo_fault, .int mo_wrongAt, .ref mo_row, .int mo_orderMany, .int mo_firstOrder, .int mo_lightest, .int mo_heaviest, .ref mo_before, .long mo_justSum, .long mo_toldSum, .long mo_allWays, .ref mo_lanes, .ref mo_sizes, .ref mo_cells, .int mo_torn, .ref mo_had])), (mo_st, .inl (k 0, 132, .inl (hst))), (mo_isKept, .inl (k 2, 2, .inl (upd hsz 1 0))), (mo_draft, .inl (k 0, 44, .inl (hst)))] H := hP
    have hD : va_D A [(mo, .inr (7, [.ref mo_st, .ref mo_at, .ref mo_isKept, .int mo_dPeople, .int mo_dHalves, .ref mo_draft, .int mo_dPeople, .int mo_dHalves, .int mo_toldLines, .int mo_highest, .ref mo_tape, .int mo_taped, .int mo_pos, .int mo_from, .int mo_sort, .int mo_value, .int mo_fault, .int mo_wrongAt, .ref mo_row, .int mo_orderMany, .int mo_firstOrder, .int mo_lightest, .int mo_heaviest, .ref mo_before, .long mo_justSum, .long mo_toldSum, .long mo_allWays, .ref mo_lanes, .ref mo_sizes, .ref mo_cells, .int mo_torn, .ref mo_had])), (mo_st, .inl (k 0, 132, .inl (hst))), (mo_isKept, .inl (k 2, 2, .inl (upd hsz 1 0))), (mo_draft, .inl (k 0, 44, .inl (hst)))] := hD
    rw [hE] at hP hD
    exact hs_vret hx hb hr hlocks hK hP hD hS () [0, 1, 2, 3] rfl (by decide) dX8_keepDraft_56 (trivial)

set_option maxHeartbeats 4000000 in
set_option maxRecDepth 100000 in
theorem m_starts (l : Launch) (D : va_G) (k : Nat → ClassId) (sz : Nat) (mo : Nat) (mo_st : Nat) (mo_at : Nat) (mo_isKept : Nat) (mo_people : Int32) (mo_halfMany : Int32) (mo_draft : Nat) (mo_dPeople : Int32) (mo_dHalves : Int32) (mo_toldLines : Int32) (mo_highest : Int32) (mo_tape : Nat) (mo_taped : Int32) (mo_pos : Int32) (mo_from : Int32) (mo_sort : Int32) (mo_value : Int32) (mo_fault : Int32) (mo_wrongAt : Int32) (mo_row : Nat) (mo_orderMany : Int32) (mo_firstOrder : Int32) (mo_lightest : Int32) (mo_heaviest : Int32) (mo_before : Nat) (mo_justSum : Int64) (mo_toldSum : Int64) (mo_allWays : Int64) (mo_lanes : Nat) (mo_sizes : Nat) (mo_cells : Nat) (mo_torn : Int32) (mo_had : Nat)  : MV l yX8_starts wsX8_starts ({ frames := 0, cells := 0, slots := 0, locals := 0 }) D k [.ref mo] [(mo, .inr (7, [.ref mo_st, .ref mo_at, .ref mo_isKept, .int mo_people, .int mo_halfMany, .ref mo_draft, .int mo_dPeople, .int mo_dHalves, .int mo_toldLines, .int mo_highest, .ref mo_tape, .int mo_taped, .int mo_pos, .int mo_from, .int mo_sort, .int mo_value, .int mo_fault, .int mo_wrongAt, .ref mo_row, .int mo_orderMany, .int mo_firstOrder, .int mo_lightest, .int mo_heaviest, .ref mo_before, .long mo_justSum, .long mo_toldSum, .long mo_allWays, .ref mo_lanes, .ref mo_sizes, .ref mo_cells, .int mo_torn, .ref mo_had])), (mo_st, .inl (k 0, 132, .inl (hst))), (mo_at, .inl (k 0, 44, .inl (hsz)))] sz (fun (u : Unit) => True) (fun (u : Unit) => [(mo, .inr (7, [.ref mo_st, .ref mo_at, .ref mo_isKept, .int mo_people, .int mo_halfMany, .ref mo_draft, .int mo_dPeople, .int mo_dHalves, .int mo_toldLines, .int mo_highest, .ref mo_tape, .int mo_taped, .int mo_pos, .int mo_from, .int mo_sort, .int mo_value, .int mo_fault, .int mo_wrongAt, .ref mo_row, .int mo_orderMany, .int mo_firstOrder, .int mo_lightest, .int mo_heaviest, .ref mo_before, .long mo_justSum, .long mo_toldSum, .long mo_allWays, .ref mo_lanes, .ref mo_sizes, .ref mo_cells, .int mo_torn, .ref mo_had])), (mo_st, .inl (k 0, 132, .inl (hst))), (mo_at, .inl (k 0, 44, .inl (hst)))]) := by
  refine Met.ofW (cc := cX8_starts) (maxL := 2) (ret := none) (by decide) rfl ?_
  intro p e s m args below meth c s₁ B hml hv
  obtain ⟨rfl, hsz, hP, hK, hD0, hN⟩ := hv
  have hx := B.exec
  have hb := B.bytes
  have hr := B.returns
  have hlocks := B.notSynchronized
  have hts := atoms_spec (ws := wsX8_starts) B.pre
  have hown : s.vm.findClass RX8 = some m.cls := findClass_of_methodNamed B.named
  have hiX8 : ∀ w ∈ u_ws RX8 TX8 32, w ∈ wsX8_starts := by decide +kernel
  have fl13 := hts (.fieldLink RX8 13 "HalfScalesModel" "at" "[I") (by decide +kernel)
  have fl7 := hts (.fieldLink RX8 7 "HalfScalesModel" "st" "[I") (by decide +kernel)
  subst hsz
  have hD := hD0.self (sz := s.heap.size)
  generalize hAe : va_A [(mo, .inr (7, [.ref mo_st, .ref mo_at, .ref mo_isKept, .int mo_people, .int mo_halfMany, .ref mo_draft, .int mo_dPeople, .int mo_dHalves, .int mo_toldLines, .int mo_highest, .ref mo_tape, .int mo_taped, .int mo_pos, .int mo_from, .int mo_sort, .int mo_value, .int mo_fault, .int mo_wrongAt, .ref mo_row, .int mo_orderMany, .int mo_firstOrder, .int mo_lightest, .int mo_heaviest, .ref mo_before, .long mo_justSum, .long mo_toldSum, .long mo_allWays, .ref mo_lanes, .ref mo_sizes, .ref mo_cells, .int mo_torn, .ref mo_had])), (mo_st, .inl (k 0, 132, .inl (hst))), (mo_at, .inl (k 0, 44, .inl (hsz)))] s.heap.size = A at hD ⊢
  have hA : ∀ q : Nat, s.heap.size ≤ q → A q := fun q h => by rw [← hAe]; exact Or.inr h
  have hS : va_S A s.heap s.heap [] := va_S.rf
  have hl := lv_entry ([.ref mo]) (n := 2) (Nat.le_of_ble_eq_true rfl)
  rw [lg_entry_eq]
  generalize (lg_sl ([.ref mo]) ++ List.replicate (2 - (lg_sl ([.ref mo])).length) Slot.unset).toArray = ls at hl ⊢
  have hl : lv_has ls 2 [(0, .ref mo)] := hl
  have hP : va_P D vwCl [(mo, .inr (7, [.ref mo_st, .ref mo_at, .ref mo_isKept, .int mo_people, .int mo_halfMany, .ref mo_draft, .int mo_dPeople, .int mo_dHalves, .int mo_toldLines, .int mo_highest, .ref mo_tape, .int mo_taped, .int mo_pos, .int mo_from, .int mo_sort, .int mo_value, .int mo_fault, .int mo_wrongAt, .ref mo_row, .int mo_orderMany, .int mo_firstOrder, .int mo_lightest, .int mo_heaviest, .ref mo_before, .long mo_justSum, .long mo_toldSum, .long mo_allWays, .ref mo_lanes, .ref mo_sizes, .ref mo_cells, .int mo_torn, .ref mo_had])), (mo_st, .inl (k 0, 132, .inl (hst))), (mo_at, .inl (k 0, 44, .inl (hsz)))] s.heap := hP
  refine lv_iconst (v := 0) hx hb dX8_starts_0 (by decide) ?_
  refine lv_istore_n (lv' := [(1, .int 0), (0, .ref mo)]) hx hb dX8_starts_1 rfl hl (by decide) rfl (fun ls hl => ?_)
  refine hs_for 44 (fun i => [(mo, .inr (7, [.ref mo_st, .ref mo_at, .ref mo_isKept, .int mo_people, .int mo_halfMany, .ref mo_draft, .int mo_dPeople, .int mo_dHalves, .int mo_toldLines, .int mo_highest, .ref mo_tape, .int mo_taped, .int mo_pos, .int mo_from, .int mo_sort, .int mo_value, .int mo_fault, .int mo_wrongAt, .ref mo_row, .int mo_orderMany, .int mo_firstOrder, .int mo_lightest, .int mo_heaviest, .ref mo_before, .long mo_justSum, .long mo_toldSum, .long mo_allWays, .ref mo_lanes, .ref mo_sizes, .ref mo_cells, .int mo_torn, .ref mo_had])), (mo_st, .inl (k 0, 132, .inl (hst))), (mo_at, .inl (k 0, 44, .inl (hsfill hst hsz i)))]) (fun i => [(1, .int (nI i)), (0, .ref mo)]) ?_ ?_ (by rw [hsfill_0]; exact hP) (by rw [hsfill_0]; exact hD) hS hl
  · intro i hi ih H locs ls hP hD hS hl
    refine lv_iload_n hx hb dX8_starts_2 rfl (lv_at hl 0 rfl) ?_
    refine lv_bipush (v := 44) hx hb dX8_starts_3 (by decide) ?_
    refine lv_icmp_ge (tgt := 26) hx hb dX8_starts_5 (by decide) (fun c_1 => absurd c_1 (nI_ge (show i < 44 by omega) (by decide))) (fun c_1 => ?_)
    refine lv_aload_n hx hb dX8_starts_8 rfl (lv_at hl 1 rfl) ?_
    refine va_get (D := D) (ci := 7) (v := .ref mo_at) (C := RX8) (T := TX8) (N := 32) hx hb hts hiX8 hown hK hP 0 rfl rfl 1 (by decide) fl13 (fun _ h9 => h9) rfl dX8_starts_9 ?_
    refine lv_iload_n hx hb dX8_starts_12 rfl (lv_at hl 0 rfl) ?_
    refine lv_aload_n hx hb dX8_starts_13 rfl (lv_at hl 1 rfl) ?_
    refine va_get (D := D) (ci := 7) (v := .ref mo_st) (C := RX8) (T := TX8) (N := 32) hx hb hts hiX8 hown hK hP 0 rfl rfl 0 (by decide) fl7 (fun _ h9 => h9) rfl dX8_starts_14 ?_
    refine lv_iload_n hx hb dX8_starts_17 rfl (lv_at hl 0 rfl) ?_
    refine va_iald hx hb hK hP 1 0 rfl rfl (vp_in_nI (show i < 132 by omega) (by decide)) dX8_starts_18 ?_
    refine va_iast hx hb hK hP hD hS 2 0 rfl rfl (vp_in_nI (show i < 44 by omega) (by decide)) dX8_starts_19 (fun H locs hP hD hS => ?_)
    have hE : upd (hsfill hst hsz i) ((nI i).toNatClampNeg) (hst (nI i).toNatClampNeg) = hsfill hst hsz (i + 1) := by rw [nI_clamp (show i < 2 ^ 31 by omega)]; exact hsfill_s hst hsz i
    have hP : va_P D vwCl [(mo, .inr (7, [.ref mo_st, .ref mo_at, .ref mo_isKept, .int mo_people, .int mo_halfMany, .ref mo_draft, .int mo_dPeople, .int mo_dHalves, .int mo_toldLines, .int mo_highest, .ref mo_tape, .int mo_taped, .int mo_pos, .int mo_from, .int mo_sort, .int mo_value, .int mo_fault, .int mo_wrongAt, .ref mo_row, .int mo_orderMany, .int mo_firstOrder, .int mo_lightest, .int mo_heaviest, .ref mo_before, .long mo_justSum, .long mo_toldSum, .long mo_allWays, .ref mo_lanes, .ref mo_sizes, .ref mo_cells, .int mo_torn, .ref mo_had])), (mo_st, .inl (k 0, 132, .inl (hst))), (mo_at, .inl (k 0, 44, .inl (upd (hsfill hst hsz i) ((nI i).toNatClampNeg) (hst (nI i).toNatClampNeg))))] H := hP
    have hD : va_D A [(mo, .inr (7, [.ref mo_st, .ref mo_at, .ref mo_isKept, .int mo_people, .int mo_halfMany, .ref mo_draft, .int mo_dPeople, .int mo_dHalves, .int mo_toldLines, .int mo_highest, .ref mo_tape, .int mo_taped, .int mo_pos, .int mo_from, .int mo_sort, .int mo_value, .int mo_fault, .int mo_wrongAt, .ref mo_row, .int mo_orderMany, .int mo_firstOrder, .int mo_lightest, .int mo_heaviest, .ref mo_before, .long mo_justSum, .long mo_toldSum, .long mo_allWays, .ref mo_lanes, .ref mo_sizes, .ref mo_cells, .int mo_torn, .ref mo_had])), (mo_st, .inl (k 0, 132, .inl (hst))), (mo_at, .inl (k 0, 44, .inl (upd (hsfill hst hsz i) ((nI i).toNatClampNeg) (hst (nI i).toNatClampNeg))))] := hD
    rw [hE] at hP hD
    refine lv_iinc (v := nI (i + 1)) (lv' := [(1, .int (nI (i + 1))), (0, .ref mo)]) hx hb dX8_starts_20 hl (k := 0) rfl (by rw [nI_succ]; rfl) (by decide) rfl (fun ls hl => ?_)
    refine lv_goto (tgt := 2) hx hb dX8_starts_23 (by decide) ?_
    exact ih _ _ _ hP hD hS (lv_sub hl [0, 1] rfl)
  · intro H locs ls hP hD hS hl
    have hE : hsfill hst hsz 44 = hst := hsfill_st
    have hP : va_P D vwCl [(mo, .inr (7, [.ref mo_st, .ref mo_at, .ref mo_isKept, .int mo_people, .int mo_halfMany, .ref mo_draft, .int mo_dPeople, .int mo_dHalves, .int mo_toldLines, .int mo_highest, .ref mo_tape, .int mo_taped, .int mo_pos, .int mo_from, .int mo_sort, .int mo_value, .int mo_fault, .int mo_wrongAt, .ref mo_row, .int mo_orderMany, .int mo_firstOrder, .int mo_lightest, .int mo_heaviest, .ref mo_before, .long mo_justSum, .long mo_toldSum, .long mo_allWays, .ref mo_lanes, .ref mo_sizes, .ref mo_cells, .int mo_torn, .ref mo_had])), (mo_st, .inl (k 0, 132, .inl (hst))), (mo_at, .inl (k 0, 44, .inl (hsfill hst hsz 44)))] H := hP
    have hD : va_D A [(mo, .inr (7, [.ref mo_st, .ref mo_at, .ref mo_isKept, .int mo_people, .int mo_halfMany, .ref mo_draft, .int mo_dPeople, .int mo_dHalves, .int mo_toldLines, .int mo_highest, .ref mo_tape, .int mo_taped, .int mo_pos, .int mo_from, .int mo_sort, .int mo_value, .int mo_fault, .int mo_wrongAt, .ref mo_row, .int mo_orderMany, .int mo_firstOrder, .int mo_lightest, .int mo_heaviest, .ref mo_before, .long mo_justSum, .long mo_toldSum, .long mo_allWays, .ref mo_lanes, .ref mo_sizes, .ref mo_cells, .int mo_torn, .ref mo_had])), (mo_st, .inl (k 0, 132, .inl (hst))), (mo_at, .inl (k 0, 44, .inl (hsfill hst hsz 44)))] := hD
    rw [hE] at hP hD
    refine lv_iload_n hx hb dX8_starts_2 rfl (lv_at hl 0 rfl) ?_
    refine lv_bipush (v := 44) hx hb dX8_starts_3 (by decide) ?_
    refine lv_icmp_ge (tgt := 26) hx hb dX8_starts_5 (by decide) (fun c_2 => ?_) (fun c_2 => absurd (show (44 : Int32) ≤ nI 44 by decide) c_2)
    exact hs_vret hx hb hr hlocks hK hP hD hS () [0, 1, 2] rfl (by decide) dX8_starts_26 (trivial)

set_option maxHeartbeats 4000000 in
set_option maxRecDepth 100000 in
theorem m_every0 (l : Launch) (D : va_G) (k : Nat → ClassId) (sz : Nat) (mo : Nat) (mo_st : Nat) (mo_at : Nat) (mo_isKept : Nat) (mo_people : Int32) (mo_halfMany : Int32) (mo_draft : Nat) (mo_dPeople : Int32) (mo_dHalves : Int32) (mo_toldLines : Int32) (mo_highest : Int32) (mo_tape : Nat) (mo_taped : Int32) (mo_pos : Int32) (mo_from : Int32) (mo_sort : Int32) (mo_value : Int32) (mo_fault : Int32) (mo_wrongAt : Int32) (mo_row : Nat) (mo_orderMany : Int32) (mo_firstOrder : Int32) (mo_lightest : Int32) (mo_heaviest : Int32) (mo_before : Nat) (mo_justSum : Int64) (mo_toldSum : Int64) (mo_allWays : Int64) (mo_lanes : Nat) (mo_sizes : Nat) (mo_cells : Nat) (mo_torn : Int32) (mo_had : Nat)  : MI l yX8_every wsX8_every ({ frames := 0, cells := 0, slots := 0, locals := 0 }) D k [.ref mo] [(mo, .inr (7, [.ref mo_st, .ref mo_at, .ref mo_isKept, .int mo_people, .int mo_halfMany, .ref mo_draft, .int mo_dPeople, .int mo_dHalves, .int mo_toldLines, .int mo_highest, .ref mo_tape, .int mo_taped, .int mo_pos, .int mo_from, .int mo_sort, .int mo_value, .int mo_fault, .int mo_wrongAt, .ref mo_row, .int mo_orderMany, .int mo_firstOrder, .int mo_lightest, .int mo_heaviest, .ref mo_before, .long mo_justSum, .long mo_toldSum, .long mo_allWays, .ref mo_lanes, .ref mo_sizes, .ref mo_cells, .int mo_torn, .ref mo_had])), (mo_at, .inl (k 0, 44, .inl (hst)))] sz (fun (r : Int32) (u : Unit) => r = 3) (fun (u : Unit) => [(mo, .inr (7, [.ref mo_st, .ref mo_at, .ref mo_isKept, .int mo_people, .int mo_halfMany, .ref mo_draft, .int mo_dPeople, .int mo_dHalves, .int mo_toldLines, .int mo_highest, .ref mo_tape, .int mo_taped, .int mo_pos, .int mo_from, .int mo_sort, .int mo_value, .int mo_fault, .int mo_wrongAt, .ref mo_row, .int mo_orderMany, .int mo_firstOrder, .int mo_lightest, .int mo_heaviest, .ref mo_before, .long mo_justSum, .long mo_toldSum, .long mo_allWays, .ref mo_lanes, .ref mo_sizes, .ref mo_cells, .int mo_torn, .ref mo_had])), (mo_at, .inl (k 0, 44, .inl (hst)))]) := by
  refine Met.ofW (cc := cX8_every) (maxL := 1) (ret := (some .int)) (by decide) rfl ?_
  intro p e s m args below meth c s₁ B hml hv
  obtain ⟨rfl, hsz, hP, hK, hD0, hN⟩ := hv
  have hx := B.exec
  have hb := B.bytes
  have hr := B.returns
  have hlocks := B.notSynchronized
  have hts := atoms_spec (ws := wsX8_every) B.pre
  have hown : s.vm.findClass RX8 = some m.cls := findClass_of_methodNamed B.named
  have hiX8 : ∀ w ∈ u_ws RX8 TX8 32, w ∈ wsX8_every := by decide +kernel
  have fl13 := hts (.fieldLink RX8 13 "HalfScalesModel" "at" "[I") (by decide +kernel)
  subst hsz
  have hD := hD0.self (sz := s.heap.size)
  generalize hAe : va_A [(mo, .inr (7, [.ref mo_st, .ref mo_at, .ref mo_isKept, .int mo_people, .int mo_halfMany, .ref mo_draft, .int mo_dPeople, .int mo_dHalves, .int mo_toldLines, .int mo_highest, .ref mo_tape, .int mo_taped, .int mo_pos, .int mo_from, .int mo_sort, .int mo_value, .int mo_fault, .int mo_wrongAt, .ref mo_row, .int mo_orderMany, .int mo_firstOrder, .int mo_lightest, .int mo_heaviest, .ref mo_before, .long mo_justSum, .long mo_toldSum, .long mo_allWays, .ref mo_lanes, .ref mo_sizes, .ref mo_cells, .int mo_torn, .ref mo_had])), (mo_at, .inl (k 0, 44, .inl (hst)))] s.heap.size = A at hD ⊢
  have hA : ∀ q : Nat, s.heap.size ≤ q → A q := fun q h => by rw [← hAe]; exact Or.inr h
  have hS : va_S A s.heap s.heap [] := va_S.rf
  have hl := lv_entry ([.ref mo]) (n := 1) (Nat.le_of_ble_eq_true rfl)
  rw [lg_entry_eq]
  generalize (lg_sl ([.ref mo]) ++ List.replicate (1 - (lg_sl ([.ref mo])).length) Slot.unset).toArray = ls at hl ⊢
  have hl : lv_has ls 1 [(0, .ref mo)] := hl
  have hP : va_P D vwCl [(mo, .inr (7, [.ref mo_st, .ref mo_at, .ref mo_isKept, .int mo_people, .int mo_halfMany, .ref mo_draft, .int mo_dPeople, .int mo_dHalves, .int mo_toldLines, .int mo_highest, .ref mo_tape, .int mo_taped, .int mo_pos, .int mo_from, .int mo_sort, .int mo_value, .int mo_fault, .int mo_wrongAt, .ref mo_row, .int mo_orderMany, .int mo_firstOrder, .int mo_lightest, .int mo_heaviest, .ref mo_before, .long mo_justSum, .long mo_toldSum, .long mo_allWays, .ref mo_lanes, .ref mo_sizes, .ref mo_cells, .int mo_torn, .ref mo_had])), (mo_at, .inl (k 0, 44, .inl (hst)))] s.heap := hP
  refine lv_iconst (v := 1) hx hb dX8_every_0 (by decide) ?_
  refine lv_aload_n hx hb dX8_every_1 rfl (lv_at hl 0 rfl) ?_
  refine va_get (D := D) (ci := 7) (v := .ref mo_at) (C := RX8) (T := TX8) (N := 32) hx hb hts hiX8 hown hK hP 0 rfl rfl 1 (by decide) fl13 (fun _ h9 => h9) rfl dX8_every_2 ?_
  refine lv_iconst (v := 0) hx hb dX8_every_5 (by decide) ?_
  refine va_iald hx hb hK hP 1 0 rfl rfl (hs_in (by decide)) dX8_every_6 ?_
  refine hs_topi 2 (by first | rfl | decide +kernel) ?_
  refine lv_ishl hx hb dX8_every_7 ?_
  refine hs_topi 4 (by first | rfl | decide +kernel) ?_
  refine lv_iconst (v := 1) hx hb dX8_every_8 (by decide) ?_
  refine lv_isub hx hb dX8_every_9 ?_
  refine hs_topi 3 (by first | rfl | decide +kernel) ?_
  exact hs_iret hx hb hr hlocks hK hP hD hS () [0, 1] rfl (by decide) dX8_every_10 (rfl)

set_option maxHeartbeats 4000000 in
set_option maxRecDepth 100000 in
theorem m_justTo0 (l : Launch) (D : va_G) (k : Nat → ClassId) (sz : Nat) (mo : Nat) (mo_st : Nat) (mo_at : Nat) (mo_isKept : Nat) (mo_halfMany : Int32) (mo_draft : Nat) (mo_dPeople : Int32) (mo_dHalves : Int32) (mo_toldLines : Int32) (mo_highest : Int32) (mo_tape : Nat) (mo_taped : Int32) (mo_pos : Int32) (mo_from : Int32) (mo_sort : Int32) (mo_value : Int32) (mo_fault : Int32) (mo_wrongAt : Int32) (mo_row : Nat) (mo_orderMany : Int32) (mo_firstOrder : Int32) (mo_lightest : Int32) (mo_heaviest : Int32) (mo_before : Nat) (mo_justSum : Int64) (mo_toldSum : Int64) (mo_allWays : Int64) (mo_lanes : Nat) (mo_sizes : Nat) (mo_cells : Nat) (mo_torn : Int32) (mo_had : Nat) (kk : Int32)  : MI l yX8_justTo wsX8_justTo ({ frames := 0, cells := 0, slots := 0, locals := 0 }) D k [.ref mo, .int kk] [(mo, .inr (7, [.ref mo_st, .ref mo_at, .ref mo_isKept, .int 0, .int mo_halfMany, .ref mo_draft, .int mo_dPeople, .int mo_dHalves, .int mo_toldLines, .int mo_highest, .ref mo_tape, .int mo_taped, .int mo_pos, .int mo_from, .int mo_sort, .int mo_value, .int mo_fault, .int mo_wrongAt, .ref mo_row, .int mo_orderMany, .int mo_firstOrder, .int mo_lightest, .int mo_heaviest, .ref mo_before, .long mo_justSum, .long mo_toldSum, .long mo_allWays, .ref mo_lanes, .ref mo_sizes, .ref mo_cells, .int mo_torn, .ref mo_had]))] sz (fun (r : Int32) (u : Unit) => r = 0) (fun (u : Unit) => [(mo, .inr (7, [.ref mo_st, .ref mo_at, .ref mo_isKept, .int 0, .int mo_halfMany, .ref mo_draft, .int mo_dPeople, .int mo_dHalves, .int mo_toldLines, .int mo_highest, .ref mo_tape, .int mo_taped, .int mo_pos, .int mo_from, .int mo_sort, .int mo_value, .int mo_fault, .int mo_wrongAt, .ref mo_row, .int mo_orderMany, .int mo_firstOrder, .int mo_lightest, .int mo_heaviest, .ref mo_before, .long mo_justSum, .long mo_toldSum, .long mo_allWays, .ref mo_lanes, .ref mo_sizes, .ref mo_cells, .int mo_torn, .ref mo_had]))]) := by
  refine Met.ofW (cc := cX8_justTo) (maxL := 4) (ret := (some .int)) (by decide) rfl ?_
  intro p e s m args below meth c s₁ B hml hv
  obtain ⟨rfl, hsz, hP, hK, hD0, hN⟩ := hv
  have hx := B.exec
  have hb := B.bytes
  have hr := B.returns
  have hlocks := B.notSynchronized
  have hts := atoms_spec (ws := wsX8_justTo) B.pre
  have hown : s.vm.findClass RX8 = some m.cls := findClass_of_methodNamed B.named
  have hiX8 : ∀ w ∈ u_ws RX8 TX8 32, w ∈ wsX8_justTo := by decide +kernel
  have fl63 := hts (.fieldLink RX8 63 "HalfScalesModel" "people" "I") (by decide +kernel)
  subst hsz
  have hD := hD0.self (sz := s.heap.size)
  generalize hAe : va_A [(mo, .inr (7, [.ref mo_st, .ref mo_at, .ref mo_isKept, .int 0, .int mo_halfMany, .ref mo_draft, .int mo_dPeople, .int mo_dHalves, .int mo_toldLines, .int mo_highest, .ref mo_tape, .int mo_taped, .int mo_pos, .int mo_from, .int mo_sort, .int mo_value, .int mo_fault, .int mo_wrongAt, .ref mo_row, .int mo_orderMany, .int mo_firstOrder, .int mo_lightest, .int mo_heaviest, .ref mo_before, .long mo_justSum, .long mo_toldSum, .long mo_allWays, .ref mo_lanes, .ref mo_sizes, .ref mo_cells, .int mo_torn, .ref mo_had]))] s.heap.size = A at hD ⊢
  have hA : ∀ q : Nat, s.heap.size ≤ q → A q := fun q h => by rw [← hAe]; exact Or.inr h
  have hS : va_S A s.heap s.heap [] := va_S.rf
  have hl := lv_entry ([.ref mo, .int kk]) (n := 4) (Nat.le_of_ble_eq_true rfl)
  rw [lg_entry_eq]
  generalize (lg_sl ([.ref mo, .int kk]) ++ List.replicate (4 - (lg_sl ([.ref mo, .int kk])).length) Slot.unset).toArray = ls at hl ⊢
  have hl : lv_has ls 4 [(0, .ref mo), (1, .int kk)] := hl
  have hP : va_P D vwCl [(mo, .inr (7, [.ref mo_st, .ref mo_at, .ref mo_isKept, .int 0, .int mo_halfMany, .ref mo_draft, .int mo_dPeople, .int mo_dHalves, .int mo_toldLines, .int mo_highest, .ref mo_tape, .int mo_taped, .int mo_pos, .int mo_from, .int mo_sort, .int mo_value, .int mo_fault, .int mo_wrongAt, .ref mo_row, .int mo_orderMany, .int mo_firstOrder, .int mo_lightest, .int mo_heaviest, .ref mo_before, .long mo_justSum, .long mo_toldSum, .long mo_allWays, .ref mo_lanes, .ref mo_sizes, .ref mo_cells, .int mo_torn, .ref mo_had]))] s.heap := hP
  refine lv_iconst (v := 0) hx hb dX8_justTo_0 (by decide) ?_
  refine lv_istore_n (lv' := [(2, .int 0), (0, .ref mo), (1, .int kk)]) hx hb dX8_justTo_1 rfl hl (by decide) rfl (fun ls hl => ?_)
  refine lv_iconst (v := 0) hx hb dX8_justTo_2 (by decide) ?_
  refine lv_istore_n (lv' := [(3, .int 0), (2, .int 0), (0, .ref mo), (1, .int kk)]) hx hb dX8_justTo_3 rfl hl (by decide) rfl (fun ls hl => ?_)
  refine lv_iload_n hx hb dX8_justTo_4 rfl (lv_at hl 0 rfl) ?_
  refine lv_aload_n hx hb dX8_justTo_5 rfl (lv_at hl 2 rfl) ?_
  refine va_get (D := D) (ci := 7) (v := .int 0) (C := RX8) (T := TX8) (N := 32) hx hb hts hiX8 hown hK hP 0 rfl rfl 3 (by decide) fl63 (fun _ h9 => h9) rfl dX8_justTo_6 ?_
  refine lv_icmp_ge (tgt := 40) hx hb dX8_justTo_9 (by decide) (fun c_1 => ?_) (fun c_1 => absurd c_1 (by decide))
  refine lv_iload_n hx hb dX8_justTo_40 rfl (lv_at hl 1 rfl) ?_
  exact hs_iret hx hb hr hlocks hK hP hD hS () [0] rfl (by decide) dX8_justTo_41 (rfl)

set_option maxHeartbeats 4000000 in
set_option maxRecDepth 100000 in
theorem m_bitsOf0 (l : Launch) (D : va_G) (k : Nat → ClassId) (sz : Nat)   : MI l yX8_bitsOf wsX8_bitsOf ({ frames := 0, cells := 0, slots := 0, locals := 0 }) D k [.int 0] [] sz (fun (r : Int32) (u : Unit) => r = 0) (fun (u : Unit) => []) := by
  refine Met.ofW (cc := cX8_bitsOf) (maxL := 3) (ret := (some .int)) (by decide) rfl ?_
  intro p e s m args below meth c s₁ B hml hv
  obtain ⟨rfl, hsz, hP, hK, hD0, hN⟩ := hv
  have hx := B.exec
  have hb := B.bytes
  have hr := B.returns
  have hlocks := B.notSynchronized
  have hts := atoms_spec (ws := wsX8_bitsOf) B.pre
  have hown : s.vm.findClass RX8 = some m.cls := findClass_of_methodNamed B.named
  subst hsz
  have hD := hD0.self (sz := s.heap.size)
  generalize hAe : va_A [] s.heap.size = A at hD ⊢
  have hA : ∀ q : Nat, s.heap.size ≤ q → A q := fun q h => by rw [← hAe]; exact Or.inr h
  have hS : va_S A s.heap s.heap [] := va_S.rf
  have hl := lv_entry ([.int 0]) (n := 3) (Nat.le_of_ble_eq_true rfl)
  rw [lg_entry_eq]
  generalize (lg_sl ([.int 0]) ++ List.replicate (3 - (lg_sl ([.int 0])).length) Slot.unset).toArray = ls at hl ⊢
  have hl : lv_has ls 3 [(0, .int 0)] := hl
  have hP : va_P D vwCl [] s.heap := hP
  refine lv_iconst (v := 0) hx hb dX8_bitsOf_0 (by decide) ?_
  refine lv_istore_n (lv' := [(1, .int 0), (0, .int 0)]) hx hb dX8_bitsOf_1 rfl hl (by decide) rfl (fun ls hl => ?_)
  refine lv_iconst (v := 0) hx hb dX8_bitsOf_2 (by decide) ?_
  refine lv_istore_n (lv' := [(2, .int 0), (1, .int 0), (0, .int 0)]) hx hb dX8_bitsOf_3 rfl hl (by decide) rfl (fun ls hl => ?_)
  refine lv_iload_n hx hb dX8_bitsOf_4 rfl (lv_at hl 0 rfl) ?_
  refine lv_bipush (v := 8) hx hb dX8_bitsOf_5 (by decide) ?_
  refine lv_icmp_ge (tgt := 24) hx hb dX8_bitsOf_7 (by decide) (fun c_1 => absurd c_1 (by decide)) (fun c_1 => ?_)
  refine lv_iload_n hx hb dX8_bitsOf_10 rfl (lv_at hl 1 rfl) ?_
  refine lv_iload_n hx hb dX8_bitsOf_11 rfl (lv_at hl 2 rfl) ?_
  refine lv_iload_n hx hb dX8_bitsOf_12 rfl (lv_at hl 0 rfl) ?_
  refine lv_ishr hx hb dX8_bitsOf_13 ?_
  refine hs_topi 0 (by first | rfl | decide +kernel) ?_
  refine lv_iconst (v := 1) hx hb dX8_bitsOf_14 (by decide) ?_
  refine lv_iand hx hb dX8_bitsOf_15 ?_
  refine hs_topi 0 (by first | rfl | decide +kernel) ?_
  refine lv_iadd hx hb dX8_bitsOf_16 ?_
  refine hs_topi 0 (by first | rfl | decide +kernel) ?_
  refine lv_istore_n (lv' := [(1, .int 0), (2, .int 0), (0, .int 0)]) hx hb dX8_bitsOf_17 rfl hl (by decide) rfl (fun ls hl => ?_)
  refine lv_iinc (v := 1) (lv' := [(2, .int 1), (1, .int 0), (0, .int 0)]) hx hb dX8_bitsOf_18 hl (k := 1) rfl (by decide) (by decide) rfl (fun ls hl => ?_)
  refine lv_goto (tgt := 4) hx hb dX8_bitsOf_21 (by decide) ?_
  refine lv_iload_n hx hb dX8_bitsOf_4 rfl (lv_at hl 0 rfl) ?_
  refine lv_bipush (v := 8) hx hb dX8_bitsOf_5 (by decide) ?_
  refine lv_icmp_ge (tgt := 24) hx hb dX8_bitsOf_7 (by decide) (fun c_2 => absurd c_2 (by decide)) (fun c_2 => ?_)
  refine lv_iload_n hx hb dX8_bitsOf_10 rfl (lv_at hl 1 rfl) ?_
  refine lv_iload_n hx hb dX8_bitsOf_11 rfl (lv_at hl 2 rfl) ?_
  refine lv_iload_n hx hb dX8_bitsOf_12 rfl (lv_at hl 0 rfl) ?_
  refine lv_ishr hx hb dX8_bitsOf_13 ?_
  refine hs_topi 0 (by first | rfl | decide +kernel) ?_
  refine lv_iconst (v := 1) hx hb dX8_bitsOf_14 (by decide) ?_
  refine lv_iand hx hb dX8_bitsOf_15 ?_
  refine hs_topi 0 (by first | rfl | decide +kernel) ?_
  refine lv_iadd hx hb dX8_bitsOf_16 ?_
  refine hs_topi 0 (by first | rfl | decide +kernel) ?_
  refine lv_istore_n (lv' := [(1, .int 0), (2, .int 1), (0, .int 0)]) hx hb dX8_bitsOf_17 rfl hl (by decide) rfl (fun ls hl => ?_)
  refine lv_iinc (v := 2) (lv' := [(2, .int 2), (1, .int 0), (0, .int 0)]) hx hb dX8_bitsOf_18 hl (k := 1) rfl (by decide) (by decide) rfl (fun ls hl => ?_)
  refine lv_goto (tgt := 4) hx hb dX8_bitsOf_21 (by decide) ?_
  refine lv_iload_n hx hb dX8_bitsOf_4 rfl (lv_at hl 0 rfl) ?_
  refine lv_bipush (v := 8) hx hb dX8_bitsOf_5 (by decide) ?_
  refine lv_icmp_ge (tgt := 24) hx hb dX8_bitsOf_7 (by decide) (fun c_3 => absurd c_3 (by decide)) (fun c_3 => ?_)
  refine lv_iload_n hx hb dX8_bitsOf_10 rfl (lv_at hl 1 rfl) ?_
  refine lv_iload_n hx hb dX8_bitsOf_11 rfl (lv_at hl 2 rfl) ?_
  refine lv_iload_n hx hb dX8_bitsOf_12 rfl (lv_at hl 0 rfl) ?_
  refine lv_ishr hx hb dX8_bitsOf_13 ?_
  refine hs_topi 0 (by first | rfl | decide +kernel) ?_
  refine lv_iconst (v := 1) hx hb dX8_bitsOf_14 (by decide) ?_
  refine lv_iand hx hb dX8_bitsOf_15 ?_
  refine hs_topi 0 (by first | rfl | decide +kernel) ?_
  refine lv_iadd hx hb dX8_bitsOf_16 ?_
  refine hs_topi 0 (by first | rfl | decide +kernel) ?_
  refine lv_istore_n (lv' := [(1, .int 0), (2, .int 2), (0, .int 0)]) hx hb dX8_bitsOf_17 rfl hl (by decide) rfl (fun ls hl => ?_)
  refine lv_iinc (v := 3) (lv' := [(2, .int 3), (1, .int 0), (0, .int 0)]) hx hb dX8_bitsOf_18 hl (k := 1) rfl (by decide) (by decide) rfl (fun ls hl => ?_)
  refine lv_goto (tgt := 4) hx hb dX8_bitsOf_21 (by decide) ?_
  refine lv_iload_n hx hb dX8_bitsOf_4 rfl (lv_at hl 0 rfl) ?_
  refine lv_bipush (v := 8) hx hb dX8_bitsOf_5 (by decide) ?_
  refine lv_icmp_ge (tgt := 24) hx hb dX8_bitsOf_7 (by decide) (fun c_4 => absurd c_4 (by decide)) (fun c_4 => ?_)
  refine lv_iload_n hx hb dX8_bitsOf_10 rfl (lv_at hl 1 rfl) ?_
  refine lv_iload_n hx hb dX8_bitsOf_11 rfl (lv_at hl 2 rfl) ?_
  refine lv_iload_n hx hb dX8_bitsOf_12 rfl (lv_at hl 0 rfl) ?_
  refine lv_ishr hx hb dX8_bitsOf_13 ?_
  refine hs_topi 0 (by first | rfl | decide +kernel) ?_
  refine lv_iconst (v := 1) hx hb dX8_bitsOf_14 (by decide) ?_
  refine lv_iand hx hb dX8_bitsOf_15 ?_
  refine hs_topi 0 (by first | rfl | decide +kernel) ?_
  refine lv_iadd hx hb dX8_bitsOf_16 ?_
  refine hs_topi 0 (by first | rfl | decide +kernel) ?_
  refine lv_istore_n (lv' := [(1, .int 0), (2, .int 3), (0, .int 0)]) hx hb dX8_bitsOf_17 rfl hl (by decide) rfl (fun ls hl => ?_)
  refine lv_iinc (v := 4) (lv' := [(2, .int 4), (1, .int 0), (0, .int 0)]) hx hb dX8_bitsOf_18 hl (k := 1) rfl (by decide) (by decide) rfl (fun ls hl => ?_)
  refine lv_goto (tgt := 4) hx hb dX8_bitsOf_21 (by decide) ?_
  refine lv_iload_n hx hb dX8_bitsOf_4 rfl (lv_at hl 0 rfl) ?_
  refine lv_bipush (v := 8) hx hb dX8_bitsOf_5 (by decide) ?_
  refine lv_icmp_ge (tgt := 24) hx hb dX8_bitsOf_7 (by decide) (fun c_5 => absurd c_5 (by decide)) (fun c_5 => ?_)
  refine lv_iload_n hx hb dX8_bitsOf_10 rfl (lv_at hl 1 rfl) ?_
  refine lv_iload_n hx hb dX8_bitsOf_11 rfl (lv_at hl 2 rfl) ?_
  refine lv_iload_n hx hb dX8_bitsOf_12 rfl (lv_at hl 0 rfl) ?_
  refine lv_ishr hx hb dX8_bitsOf_13 ?_
  refine hs_topi 0 (by first | rfl | decide +kernel) ?_
  refine lv_iconst (v := 1) hx hb dX8_bitsOf_14 (by decide) ?_
  refine lv_iand hx hb dX8_bitsOf_15 ?_
  refine hs_topi 0 (by first | rfl | decide +kernel) ?_
  refine lv_iadd hx hb dX8_bitsOf_16 ?_
  refine hs_topi 0 (by first | rfl | decide +kernel) ?_
  refine lv_istore_n (lv' := [(1, .int 0), (2, .int 4), (0, .int 0)]) hx hb dX8_bitsOf_17 rfl hl (by decide) rfl (fun ls hl => ?_)
  refine lv_iinc (v := 5) (lv' := [(2, .int 5), (1, .int 0), (0, .int 0)]) hx hb dX8_bitsOf_18 hl (k := 1) rfl (by decide) (by decide) rfl (fun ls hl => ?_)
  refine lv_goto (tgt := 4) hx hb dX8_bitsOf_21 (by decide) ?_
  refine lv_iload_n hx hb dX8_bitsOf_4 rfl (lv_at hl 0 rfl) ?_
  refine lv_bipush (v := 8) hx hb dX8_bitsOf_5 (by decide) ?_
  refine lv_icmp_ge (tgt := 24) hx hb dX8_bitsOf_7 (by decide) (fun c_6 => absurd c_6 (by decide)) (fun c_6 => ?_)
  refine lv_iload_n hx hb dX8_bitsOf_10 rfl (lv_at hl 1 rfl) ?_
  refine lv_iload_n hx hb dX8_bitsOf_11 rfl (lv_at hl 2 rfl) ?_
  refine lv_iload_n hx hb dX8_bitsOf_12 rfl (lv_at hl 0 rfl) ?_
  refine lv_ishr hx hb dX8_bitsOf_13 ?_
  refine hs_topi 0 (by first | rfl | decide +kernel) ?_
  refine lv_iconst (v := 1) hx hb dX8_bitsOf_14 (by decide) ?_
  refine lv_iand hx hb dX8_bitsOf_15 ?_
  refine hs_topi 0 (by first | rfl | decide +kernel) ?_
  refine lv_iadd hx hb dX8_bitsOf_16 ?_
  refine hs_topi 0 (by first | rfl | decide +kernel) ?_
  refine lv_istore_n (lv' := [(1, .int 0), (2, .int 5), (0, .int 0)]) hx hb dX8_bitsOf_17 rfl hl (by decide) rfl (fun ls hl => ?_)
  refine lv_iinc (v := 6) (lv' := [(2, .int 6), (1, .int 0), (0, .int 0)]) hx hb dX8_bitsOf_18 hl (k := 1) rfl (by decide) (by decide) rfl (fun ls hl => ?_)
  refine lv_goto (tgt := 4) hx hb dX8_bitsOf_21 (by decide) ?_
  refine lv_iload_n hx hb dX8_bitsOf_4 rfl (lv_at hl 0 rfl) ?_
  refine lv_bipush (v := 8) hx hb dX8_bitsOf_5 (by decide) ?_
  refine lv_icmp_ge (tgt := 24) hx hb dX8_bitsOf_7 (by decide) (fun c_7 => absurd c_7 (by decide)) (fun c_7 => ?_)
  refine lv_iload_n hx hb dX8_bitsOf_10 rfl (lv_at hl 1 rfl) ?_
  refine lv_iload_n hx hb dX8_bitsOf_11 rfl (lv_at hl 2 rfl) ?_
  refine lv_iload_n hx hb dX8_bitsOf_12 rfl (lv_at hl 0 rfl) ?_
  refine lv_ishr hx hb dX8_bitsOf_13 ?_
  refine hs_topi 0 (by first | rfl | decide +kernel) ?_
  refine lv_iconst (v := 1) hx hb dX8_bitsOf_14 (by decide) ?_
  refine lv_iand hx hb dX8_bitsOf_15 ?_
  refine hs_topi 0 (by first | rfl | decide +kernel) ?_
  refine lv_iadd hx hb dX8_bitsOf_16 ?_
  refine hs_topi 0 (by first | rfl | decide +kernel) ?_
  refine lv_istore_n (lv' := [(1, .int 0), (2, .int 6), (0, .int 0)]) hx hb dX8_bitsOf_17 rfl hl (by decide) rfl (fun ls hl => ?_)
  refine lv_iinc (v := 7) (lv' := [(2, .int 7), (1, .int 0), (0, .int 0)]) hx hb dX8_bitsOf_18 hl (k := 1) rfl (by decide) (by decide) rfl (fun ls hl => ?_)
  refine lv_goto (tgt := 4) hx hb dX8_bitsOf_21 (by decide) ?_
  refine lv_iload_n hx hb dX8_bitsOf_4 rfl (lv_at hl 0 rfl) ?_
  refine lv_bipush (v := 8) hx hb dX8_bitsOf_5 (by decide) ?_
  refine lv_icmp_ge (tgt := 24) hx hb dX8_bitsOf_7 (by decide) (fun c_8 => absurd c_8 (by decide)) (fun c_8 => ?_)
  refine lv_iload_n hx hb dX8_bitsOf_10 rfl (lv_at hl 1 rfl) ?_
  refine lv_iload_n hx hb dX8_bitsOf_11 rfl (lv_at hl 2 rfl) ?_
  refine lv_iload_n hx hb dX8_bitsOf_12 rfl (lv_at hl 0 rfl) ?_
  refine lv_ishr hx hb dX8_bitsOf_13 ?_
  refine hs_topi 0 (by first | rfl | decide +kernel) ?_
  refine lv_iconst (v := 1) hx hb dX8_bitsOf_14 (by decide) ?_
  refine lv_iand hx hb dX8_bitsOf_15 ?_
  refine hs_topi 0 (by first | rfl | decide +kernel) ?_
  refine lv_iadd hx hb dX8_bitsOf_16 ?_
  refine hs_topi 0 (by first | rfl | decide +kernel) ?_
  refine lv_istore_n (lv' := [(1, .int 0), (2, .int 7), (0, .int 0)]) hx hb dX8_bitsOf_17 rfl hl (by decide) rfl (fun ls hl => ?_)
  refine lv_iinc (v := 8) (lv' := [(2, .int 8), (1, .int 0), (0, .int 0)]) hx hb dX8_bitsOf_18 hl (k := 1) rfl (by decide) (by decide) rfl (fun ls hl => ?_)
  refine lv_goto (tgt := 4) hx hb dX8_bitsOf_21 (by decide) ?_
  refine lv_iload_n hx hb dX8_bitsOf_4 rfl (lv_at hl 0 rfl) ?_
  refine lv_bipush (v := 8) hx hb dX8_bitsOf_5 (by decide) ?_
  refine lv_icmp_ge (tgt := 24) hx hb dX8_bitsOf_7 (by decide) (fun c_9 => ?_) (fun c_9 => absurd c_9 (by decide))
  refine lv_iload_n hx hb dX8_bitsOf_24 rfl (lv_at hl 1 rfl) ?_
  exact hs_iret hx hb hr hlocks hK hP hD hS () [] rfl (by decide) dX8_bitsOf_25 (rfl)

set_option maxHeartbeats 4000000 in
set_option maxRecDepth 100000 in
theorem m_allWeights0 (l : Launch) (D : va_G) (k : Nat → ClassId) (sz : Nat) (mo : Nat) (mo_st : Nat) (mo_at : Nat) (mo_isKept : Nat) (mo_people : Int32) (mo_halfMany : Int32) (mo_draft : Nat) (mo_dPeople : Int32) (mo_dHalves : Int32) (mo_toldLines : Int32) (mo_highest : Int32) (mo_tape : Nat) (mo_taped : Int32) (mo_pos : Int32) (mo_from : Int32) (mo_sort : Int32) (mo_value : Int32) (mo_fault : Int32) (mo_wrongAt : Int32) (mo_row : Nat) (mo_orderMany : Int32) (mo_firstOrder : Int32) (mo_lightest : Int32) (mo_heaviest : Int32) (mo_before : Nat) (mo_justSum : Int64) (mo_toldSum : Int64) (mo_allWays : Int64) (mo_lanes : Nat) (mo_sizes : Nat) (mo_cells : Nat) (mo_torn : Int32) (mo_had : Nat)  : MI l yX8_allWeights wsX8_allWeights ({ frames := 0, cells := 0, slots := 0, locals := 0 }) D k [.ref mo] [(mo, .inr (7, [.ref mo_st, .ref mo_at, .ref mo_isKept, .int mo_people, .int mo_halfMany, .ref mo_draft, .int mo_dPeople, .int mo_dHalves, .int mo_toldLines, .int mo_highest, .ref mo_tape, .int mo_taped, .int mo_pos, .int mo_from, .int mo_sort, .int mo_value, .int mo_fault, .int mo_wrongAt, .ref mo_row, .int mo_orderMany, .int mo_firstOrder, .int mo_lightest, .int mo_heaviest, .ref mo_before, .long mo_justSum, .long mo_toldSum, .long mo_allWays, .ref mo_lanes, .ref mo_sizes, .ref mo_cells, .int mo_torn, .ref mo_had])), (mo_at, .inl (k 0, 44, .inl (hst)))] sz (fun (r : Int32) (u : Unit) => r = 2) (fun (u : Unit) => [(mo, .inr (7, [.ref mo_st, .ref mo_at, .ref mo_isKept, .int mo_people, .int mo_halfMany, .ref mo_draft, .int mo_dPeople, .int mo_dHalves, .int mo_toldLines, .int mo_highest, .ref mo_tape, .int mo_taped, .int mo_pos, .int mo_from, .int mo_sort, .int mo_value, .int mo_fault, .int mo_wrongAt, .ref mo_row, .int mo_orderMany, .int mo_firstOrder, .int mo_lightest, .int mo_heaviest, .ref mo_before, .long mo_justSum, .long mo_toldSum, .long mo_allWays, .ref mo_lanes, .ref mo_sizes, .ref mo_cells, .int mo_torn, .ref mo_had])), (mo_at, .inl (k 0, 44, .inl (hst)))]) := by
  refine Met.ofW (cc := cX8_allWeights) (maxL := 3) (ret := (some .int)) (by decide) rfl ?_
  intro p e s m args below meth c s₁ B hml hv
  obtain ⟨rfl, hsz, hP, hK, hD0, hN⟩ := hv
  have hx := B.exec
  have hb := B.bytes
  have hr := B.returns
  have hlocks := B.notSynchronized
  have hts := atoms_spec (ws := wsX8_allWeights) B.pre
  have hown : s.vm.findClass RX8 = some m.cls := findClass_of_methodNamed B.named
  have hiX8 : ∀ w ∈ u_ws RX8 TX8 32, w ∈ wsX8_allWeights := by decide +kernel
  have fl13 := hts (.fieldLink RX8 13 "HalfScalesModel" "at" "[I") (by decide +kernel)
  subst hsz
  have hD := hD0.self (sz := s.heap.size)
  generalize hAe : va_A [(mo, .inr (7, [.ref mo_st, .ref mo_at, .ref mo_isKept, .int mo_people, .int mo_halfMany, .ref mo_draft, .int mo_dPeople, .int mo_dHalves, .int mo_toldLines, .int mo_highest, .ref mo_tape, .int mo_taped, .int mo_pos, .int mo_from, .int mo_sort, .int mo_value, .int mo_fault, .int mo_wrongAt, .ref mo_row, .int mo_orderMany, .int mo_firstOrder, .int mo_lightest, .int mo_heaviest, .ref mo_before, .long mo_justSum, .long mo_toldSum, .long mo_allWays, .ref mo_lanes, .ref mo_sizes, .ref mo_cells, .int mo_torn, .ref mo_had])), (mo_at, .inl (k 0, 44, .inl (hst)))] s.heap.size = A at hD ⊢
  have hA : ∀ q : Nat, s.heap.size ≤ q → A q := fun q h => by rw [← hAe]; exact Or.inr h
  have hS : va_S A s.heap s.heap [] := va_S.rf
  have hl := lv_entry ([.ref mo]) (n := 3) (Nat.le_of_ble_eq_true rfl)
  rw [lg_entry_eq]
  generalize (lg_sl ([.ref mo]) ++ List.replicate (3 - (lg_sl ([.ref mo])).length) Slot.unset).toArray = ls at hl ⊢
  have hl : lv_has ls 3 [(0, .ref mo)] := hl
  have hP : va_P D vwCl [(mo, .inr (7, [.ref mo_st, .ref mo_at, .ref mo_isKept, .int mo_people, .int mo_halfMany, .ref mo_draft, .int mo_dPeople, .int mo_dHalves, .int mo_toldLines, .int mo_highest, .ref mo_tape, .int mo_taped, .int mo_pos, .int mo_from, .int mo_sort, .int mo_value, .int mo_fault, .int mo_wrongAt, .ref mo_row, .int mo_orderMany, .int mo_firstOrder, .int mo_lightest, .int mo_heaviest, .ref mo_before, .long mo_justSum, .long mo_toldSum, .long mo_allWays, .ref mo_lanes, .ref mo_sizes, .ref mo_cells, .int mo_torn, .ref mo_had])), (mo_at, .inl (k 0, 44, .inl (hst)))] s.heap := hP
  refine lv_iconst (v := 0) hx hb dX8_allWeights_0 (by decide) ?_
  refine lv_istore_n (lv' := [(1, .int 0), (0, .ref mo)]) hx hb dX8_allWeights_1 rfl hl (by decide) rfl (fun ls hl => ?_)
  refine lv_iconst (v := 0) hx hb dX8_allWeights_2 (by decide) ?_
  refine lv_istore_n (lv' := [(2, .int 0), (1, .int 0), (0, .ref mo)]) hx hb dX8_allWeights_3 rfl hl (by decide) rfl (fun ls hl => ?_)
  refine lv_iload_n hx hb dX8_allWeights_4 rfl (lv_at hl 0 rfl) ?_
  refine lv_aload_n hx hb dX8_allWeights_5 rfl (lv_at hl 2 rfl) ?_
  refine va_get (D := D) (ci := 7) (v := .ref mo_at) (C := RX8) (T := TX8) (N := 32) hx hb hts hiX8 hown hK hP 0 rfl rfl 1 (by decide) fl13 (fun _ h9 => h9) rfl dX8_allWeights_6 ?_
  refine lv_iconst (v := 0) hx hb dX8_allWeights_9 (by decide) ?_
  refine va_iald hx hb hK hP 1 0 rfl rfl (hs_in (by decide)) dX8_allWeights_10 ?_
  refine hs_topi 2 (by first | rfl | decide +kernel) ?_
  refine lv_icmp_ge (tgt := 31) hx hb dX8_allWeights_11 (by decide) (fun c_1 => absurd c_1 (by decide)) (fun c_1 => ?_)
  refine lv_iload_n hx hb dX8_allWeights_14 rfl (lv_at hl 1 rfl) ?_
  refine lv_aload_n hx hb dX8_allWeights_15 rfl (lv_at hl 2 rfl) ?_
  refine va_get (D := D) (ci := 7) (v := .ref mo_at) (C := RX8) (T := TX8) (N := 32) hx hb hts hiX8 hown hK hP 0 rfl rfl 1 (by decide) fl13 (fun _ h9 => h9) rfl dX8_allWeights_16 ?_
  refine lv_iconst (v := 1) hx hb dX8_allWeights_19 (by decide) ?_
  refine lv_iload_n hx hb dX8_allWeights_20 rfl (lv_at hl 0 rfl) ?_
  refine lv_iadd hx hb dX8_allWeights_21 ?_
  refine hs_topi 1 (by first | rfl | decide +kernel) ?_
  refine va_iald hx hb hK hP 1 0 rfl rfl (hs_in (by decide)) dX8_allWeights_22 ?_
  refine hs_topi 1 (by first | rfl | decide +kernel) ?_
  refine lv_iadd hx hb dX8_allWeights_23 ?_
  refine hs_topi 1 (by first | rfl | decide +kernel) ?_
  refine lv_istore_n (lv' := [(1, .int 1), (2, .int 0), (0, .ref mo)]) hx hb dX8_allWeights_24 rfl hl (by decide) rfl (fun ls hl => ?_)
  refine lv_iinc (v := 1) (lv' := [(2, .int 1), (1, .int 1), (0, .ref mo)]) hx hb dX8_allWeights_25 hl (k := 1) rfl (by decide) (by decide) rfl (fun ls hl => ?_)
  refine lv_goto (tgt := 4) hx hb dX8_allWeights_28 (by decide) ?_
  refine lv_iload_n hx hb dX8_allWeights_4 rfl (lv_at hl 0 rfl) ?_
  refine lv_aload_n hx hb dX8_allWeights_5 rfl (lv_at hl 2 rfl) ?_
  refine va_get (D := D) (ci := 7) (v := .ref mo_at) (C := RX8) (T := TX8) (N := 32) hx hb hts hiX8 hown hK hP 0 rfl rfl 1 (by decide) fl13 (fun _ h9 => h9) rfl dX8_allWeights_6 ?_
  refine lv_iconst (v := 0) hx hb dX8_allWeights_9 (by decide) ?_
  refine va_iald hx hb hK hP 1 0 rfl rfl (hs_in (by decide)) dX8_allWeights_10 ?_
  refine hs_topi 2 (by first | rfl | decide +kernel) ?_
  refine lv_icmp_ge (tgt := 31) hx hb dX8_allWeights_11 (by decide) (fun c_2 => absurd c_2 (by decide)) (fun c_2 => ?_)
  refine lv_iload_n hx hb dX8_allWeights_14 rfl (lv_at hl 1 rfl) ?_
  refine lv_aload_n hx hb dX8_allWeights_15 rfl (lv_at hl 2 rfl) ?_
  refine va_get (D := D) (ci := 7) (v := .ref mo_at) (C := RX8) (T := TX8) (N := 32) hx hb hts hiX8 hown hK hP 0 rfl rfl 1 (by decide) fl13 (fun _ h9 => h9) rfl dX8_allWeights_16 ?_
  refine lv_iconst (v := 1) hx hb dX8_allWeights_19 (by decide) ?_
  refine lv_iload_n hx hb dX8_allWeights_20 rfl (lv_at hl 0 rfl) ?_
  refine lv_iadd hx hb dX8_allWeights_21 ?_
  refine hs_topi 2 (by first | rfl | decide +kernel) ?_
  refine va_iald hx hb hK hP 1 0 rfl rfl (hs_in (by decide)) dX8_allWeights_22 ?_
  refine hs_topi 1 (by first | rfl | decide +kernel) ?_
  refine lv_iadd hx hb dX8_allWeights_23 ?_
  refine hs_topi 2 (by first | rfl | decide +kernel) ?_
  refine lv_istore_n (lv' := [(1, .int 2), (2, .int 1), (0, .ref mo)]) hx hb dX8_allWeights_24 rfl hl (by decide) rfl (fun ls hl => ?_)
  refine lv_iinc (v := 2) (lv' := [(2, .int 2), (1, .int 2), (0, .ref mo)]) hx hb dX8_allWeights_25 hl (k := 1) rfl (by decide) (by decide) rfl (fun ls hl => ?_)
  refine lv_goto (tgt := 4) hx hb dX8_allWeights_28 (by decide) ?_
  refine lv_iload_n hx hb dX8_allWeights_4 rfl (lv_at hl 0 rfl) ?_
  refine lv_aload_n hx hb dX8_allWeights_5 rfl (lv_at hl 2 rfl) ?_
  refine va_get (D := D) (ci := 7) (v := .ref mo_at) (C := RX8) (T := TX8) (N := 32) hx hb hts hiX8 hown hK hP 0 rfl rfl 1 (by decide) fl13 (fun _ h9 => h9) rfl dX8_allWeights_6 ?_
  refine lv_iconst (v := 0) hx hb dX8_allWeights_9 (by decide) ?_
  refine va_iald hx hb hK hP 1 0 rfl rfl (hs_in (by decide)) dX8_allWeights_10 ?_
  refine hs_topi 2 (by first | rfl | decide +kernel) ?_
  refine lv_icmp_ge (tgt := 31) hx hb dX8_allWeights_11 (by decide) (fun c_3 => ?_) (fun c_3 => absurd c_3 (by decide))
  refine lv_iload_n hx hb dX8_allWeights_31 rfl (lv_at hl 1 rfl) ?_
  exact hs_iret hx hb hr hlocks hK hP hD hS () [0, 1] rfl (by decide) dX8_allWeights_32 (rfl)

set_option maxHeartbeats 4000000 in
set_option maxRecDepth 100000 in
theorem m_isSo0 (l : Launch) (D : va_G) (k : Nat → ClassId) (sz : Nat) (mo : Nat) (mo_st : Nat) (mo_at : Nat) (mo_isKept : Nat) (mo_people : Int32) (mo_halfMany : Int32) (mo_draft : Nat) (mo_dPeople : Int32) (mo_dHalves : Int32) (mo_toldLines : Int32) (mo_highest : Int32) (mo_tape : Nat) (mo_taped : Int32) (mo_pos : Int32) (mo_from : Int32) (mo_sort : Int32) (mo_value : Int32) (mo_fault : Int32) (mo_wrongAt : Int32) (mo_row : Nat) (mo_orderMany : Int32) (mo_firstOrder : Int32) (mo_lightest : Int32) (mo_heaviest : Int32) (mo_before : Nat) (mo_justSum : Int64) (mo_toldSum : Int64) (mo_allWays : Int64) (mo_lanes : Nat) (mo_sizes : Nat) (mo_cells : Nat) (mo_torn : Int32) (mo_had : Nat) (af : Nat → Int32) (h25 : af 25 = 0) : MI l yX8_isSo wsX8_isSo ({ frames := 0, cells := 0, slots := 0, locals := 0 }) D k [.ref mo] [(mo, .inr (7, [.ref mo_st, .ref mo_at, .ref mo_isKept, .int mo_people, .int mo_halfMany, .ref mo_draft, .int mo_dPeople, .int mo_dHalves, .int mo_toldLines, .int mo_highest, .ref mo_tape, .int mo_taped, .int mo_pos, .int mo_from, .int mo_sort, .int mo_value, .int mo_fault, .int mo_wrongAt, .ref mo_row, .int mo_orderMany, .int mo_firstOrder, .int mo_lightest, .int mo_heaviest, .ref mo_before, .long mo_justSum, .long mo_toldSum, .long mo_allWays, .ref mo_lanes, .ref mo_sizes, .ref mo_cells, .int mo_torn, .ref mo_had])), (mo_at, .inl (k 0, 44, .inl (af)))] sz (fun (r : Int32) (u : Unit) => r = 1) (fun (u : Unit) => [(mo, .inr (7, [.ref mo_st, .ref mo_at, .ref mo_isKept, .int mo_people, .int mo_halfMany, .ref mo_draft, .int mo_dPeople, .int mo_dHalves, .int mo_toldLines, .int mo_highest, .ref mo_tape, .int mo_taped, .int mo_pos, .int mo_from, .int mo_sort, .int mo_value, .int mo_fault, .int mo_wrongAt, .ref mo_row, .int mo_orderMany, .int mo_firstOrder, .int mo_lightest, .int mo_heaviest, .ref mo_before, .long mo_justSum, .long mo_toldSum, .long mo_allWays, .ref mo_lanes, .ref mo_sizes, .ref mo_cells, .int mo_torn, .ref mo_had])), (mo_at, .inl (k 0, 44, .inl (af)))]) := by
  refine Met.ofW (cc := cX8_isSo) (maxL := 4) (ret := (some .boolean)) (by decide) rfl ?_
  intro p e s m args below meth c s₁ B hml hv
  obtain ⟨rfl, hsz, hP, hK, hD0, hN⟩ := hv
  have hx := B.exec
  have hb := B.bytes
  have hr := B.returns
  have hlocks := B.notSynchronized
  have hts := atoms_spec (ws := wsX8_isSo) B.pre
  have hown : s.vm.findClass RX8 = some m.cls := findClass_of_methodNamed B.named
  have hiX8 : ∀ w ∈ u_ws RX8 TX8 32, w ∈ wsX8_isSo := by decide +kernel
  have fl13 := hts (.fieldLink RX8 13 "HalfScalesModel" "at" "[I") (by decide +kernel)
  subst hsz
  have hD := hD0.self (sz := s.heap.size)
  generalize hAe : va_A [(mo, .inr (7, [.ref mo_st, .ref mo_at, .ref mo_isKept, .int mo_people, .int mo_halfMany, .ref mo_draft, .int mo_dPeople, .int mo_dHalves, .int mo_toldLines, .int mo_highest, .ref mo_tape, .int mo_taped, .int mo_pos, .int mo_from, .int mo_sort, .int mo_value, .int mo_fault, .int mo_wrongAt, .ref mo_row, .int mo_orderMany, .int mo_firstOrder, .int mo_lightest, .int mo_heaviest, .ref mo_before, .long mo_justSum, .long mo_toldSum, .long mo_allWays, .ref mo_lanes, .ref mo_sizes, .ref mo_cells, .int mo_torn, .ref mo_had])), (mo_at, .inl (k 0, 44, .inl (af)))] s.heap.size = A at hD ⊢
  have hA : ∀ q : Nat, s.heap.size ≤ q → A q := fun q h => by rw [← hAe]; exact Or.inr h
  have hS : va_S A s.heap s.heap [] := va_S.rf
  have hl := lv_entry ([.ref mo]) (n := 4) (Nat.le_of_ble_eq_true rfl)
  rw [lg_entry_eq]
  generalize (lg_sl ([.ref mo]) ++ List.replicate (4 - (lg_sl ([.ref mo])).length) Slot.unset).toArray = ls at hl ⊢
  have hl : lv_has ls 4 [(0, .ref mo)] := hl
  have hP : va_P D vwCl [(mo, .inr (7, [.ref mo_st, .ref mo_at, .ref mo_isKept, .int mo_people, .int mo_halfMany, .ref mo_draft, .int mo_dPeople, .int mo_dHalves, .int mo_toldLines, .int mo_highest, .ref mo_tape, .int mo_taped, .int mo_pos, .int mo_from, .int mo_sort, .int mo_value, .int mo_fault, .int mo_wrongAt, .ref mo_row, .int mo_orderMany, .int mo_firstOrder, .int mo_lightest, .int mo_heaviest, .ref mo_before, .long mo_justSum, .long mo_toldSum, .long mo_allWays, .ref mo_lanes, .ref mo_sizes, .ref mo_cells, .int mo_torn, .ref mo_had])), (mo_at, .inl (k 0, 44, .inl (af)))] s.heap := hP
  refine lv_iconst (v := 1) hx hb dX8_isSo_0 (by decide) ?_
  refine lv_istore_n (lv' := [(1, .int 1), (0, .ref mo)]) hx hb dX8_isSo_1 rfl hl (by decide) rfl (fun ls hl => ?_)
  refine lv_iconst (v := 0) hx hb dX8_isSo_2 (by decide) ?_
  refine lv_istore_n (lv' := [(2, .int 0), (1, .int 1), (0, .ref mo)]) hx hb dX8_isSo_3 rfl hl (by decide) rfl (fun ls hl => ?_)
  refine lv_iload_n hx hb dX8_isSo_4 rfl (lv_at hl 0 rfl) ?_
  refine lv_aload_n hx hb dX8_isSo_5 rfl (lv_at hl 2 rfl) ?_
  refine va_get (D := D) (ci := 7) (v := .ref mo_at) (C := RX8) (T := TX8) (N := 32) hx hb hts hiX8 hown hK hP 0 rfl rfl 1 (by decide) fl13 (fun _ h9 => h9) rfl dX8_isSo_6 ?_
  refine lv_bipush (v := 25) hx hb dX8_isSo_9 (by decide) ?_
  refine va_iald hx hb hK hP 1 0 rfl rfl (hs_in (by decide)) dX8_isSo_11 ?_
  refine hs_topi 0 h25 ?_
  refine lv_icmp_ge (tgt := 84) hx hb dX8_isSo_12 (by decide) (fun c_1 => ?_) (fun c_1 => absurd c_1 (by decide))
  refine lv_iload_n hx hb dX8_isSo_84 rfl (lv_at hl 1 rfl) ?_
  exact hs_zret hx hb hr hlocks hK hP hD hS () [0, 1] rfl (by decide) dX8_isSo_85 rfl (rfl)

set_option maxHeartbeats 4000000 in
set_option maxRecDepth 100000 in
theorem m_becomes_st (l : Launch) (D : va_G) (k : Nat → ClassId) (sz : Nat) (mo : Nat) (mo_st : Nat) (mo_at : Nat) (mo_isKept : Nat) (mo_draft : Nat) (mo_tape : Nat) (mo_row : Nat) (mo_before : Nat) (mo_lanes : Nat) (mo_sizes : Nat) (mo_cells : Nat) (mo_had : Nat) (i : Int32) (v : Int32) (hi : vp_in i 132) : MI l yX8_becomes wsX8_becomes ({ frames := 0, cells := 0, slots := 0, locals := 0 }) D k [.ref mo, .int i, .int v] [(mo, .inr (7, [.ref mo_st, .ref mo_at, .ref mo_isKept, .int 0, .int 2, .ref mo_draft, .int 0, .int 2, .int 0, .int (-4), .ref mo_tape, .int 0, .int 0, .int 0, .int 0, .int 0, .int 0, .int 0, .ref mo_row, .int 0, .int 0, .int 0, .int 0, .ref mo_before, .long 0, .long 0, .long 0, .ref mo_lanes, .ref mo_sizes, .ref mo_cells, .int 0, .ref mo_had])), (mo_st, .inl (k 0, 132, .inl (hst)))] sz (fun (r : Int32) (u : Unit) => r = hst i.toNatClampNeg) (fun (u : Unit) => []) := by
  refine Met.ofW (cc := cX8_becomes) (maxL := 4) (ret := (some .int)) (by decide) rfl ?_
  intro p e s m args below meth c s₁ B hml hv
  obtain ⟨rfl, hsz, hP, hK, hD0, hN⟩ := hv
  have hx := B.exec
  have hb := B.bytes
  have hr := B.returns
  have hlocks := B.notSynchronized
  have hts := atoms_spec (ws := wsX8_becomes) B.pre
  have hown : s.vm.findClass RX8 = some m.cls := findClass_of_methodNamed B.named
  have hiX8 : ∀ w ∈ u_ws RX8 TX8 32, w ∈ wsX8_becomes := by decide +kernel
  have fl7 := hts (.fieldLink RX8 7 "HalfScalesModel" "st" "[I") (by decide +kernel)
  subst hsz
  have hD := hD0.self (sz := s.heap.size)
  generalize hAe : va_A [(mo, .inr (7, [.ref mo_st, .ref mo_at, .ref mo_isKept, .int 0, .int 2, .ref mo_draft, .int 0, .int 2, .int 0, .int (-4), .ref mo_tape, .int 0, .int 0, .int 0, .int 0, .int 0, .int 0, .int 0, .ref mo_row, .int 0, .int 0, .int 0, .int 0, .ref mo_before, .long 0, .long 0, .long 0, .ref mo_lanes, .ref mo_sizes, .ref mo_cells, .int 0, .ref mo_had])), (mo_st, .inl (k 0, 132, .inl (hst)))] s.heap.size = A at hD ⊢
  have hA : ∀ q : Nat, s.heap.size ≤ q → A q := fun q h => by rw [← hAe]; exact Or.inr h
  have hS : va_S A s.heap s.heap [] := va_S.rf
  have hl := lv_entry ([.ref mo, .int i, .int v]) (n := 4) (Nat.le_of_ble_eq_true rfl)
  rw [lg_entry_eq]
  generalize (lg_sl ([.ref mo, .int i, .int v]) ++ List.replicate (4 - (lg_sl ([.ref mo, .int i, .int v])).length) Slot.unset).toArray = ls at hl ⊢
  have hl : lv_has ls 4 [(0, .ref mo), (1, .int i), (2, .int v)] := hl
  have hP : va_P D vwCl [(mo, .inr (7, [.ref mo_st, .ref mo_at, .ref mo_isKept, .int 0, .int 2, .ref mo_draft, .int 0, .int 2, .int 0, .int (-4), .ref mo_tape, .int 0, .int 0, .int 0, .int 0, .int 0, .int 0, .int 0, .ref mo_row, .int 0, .int 0, .int 0, .int 0, .ref mo_before, .long 0, .long 0, .long 0, .ref mo_lanes, .ref mo_sizes, .ref mo_cells, .int 0, .ref mo_had])), (mo_st, .inl (k 0, 132, .inl (hst)))] s.heap := hP
  refine lv_aload_n hx hb dX8_becomes_0 rfl (lv_at hl 0 rfl) ?_
  refine va_get (D := D) (ci := 7) (v := .ref mo_st) (C := RX8) (T := TX8) (N := 32) hx hb hts hiX8 hown hK hP 0 rfl rfl 0 (by decide) fl7 (fun _ h9 => h9) rfl dX8_becomes_1 ?_
  refine lv_iload_n hx hb dX8_becomes_4 rfl (lv_at hl 1 rfl) ?_
  refine va_iald hx hb hK hP 1 0 rfl rfl hi dX8_becomes_5 ?_
  refine lv_istore_n (lv' := [(3, .int (hst i.toNatClampNeg)), (0, .ref mo), (1, .int i), (2, .int v)]) hx hb dX8_becomes_6 rfl hl (by decide) rfl (fun ls hl => ?_)
  refine lv_aload_n hx hb dX8_becomes_7 rfl (lv_at hl 1 rfl) ?_
  refine va_get (D := D) (ci := 7) (v := .ref mo_st) (C := RX8) (T := TX8) (N := 32) hx hb hts hiX8 hown hK hP 0 rfl rfl 0 (by decide) fl7 (fun _ h9 => h9) rfl dX8_becomes_8 ?_
  refine lv_iload_n hx hb dX8_becomes_11 rfl (lv_at hl 2 rfl) ?_
  refine lv_iload_n hx hb dX8_becomes_12 rfl (lv_at hl 3 rfl) ?_
  refine va_iast hx hb hK hP hD hS 1 0 rfl rfl hi dX8_becomes_13 (fun H locs hP hD hS => ?_)
  have hP : va_P D vwCl [(mo, .inr (7, [.ref mo_st, .ref mo_at, .ref mo_isKept, .int 0, .int 2, .ref mo_draft, .int 0, .int 2, .int 0, .int (-4), .ref mo_tape, .int 0, .int 0, .int 0, .int 0, .int 0, .int 0, .int 0, .ref mo_row, .int 0, .int 0, .int 0, .int 0, .ref mo_before, .long 0, .long 0, .long 0, .ref mo_lanes, .ref mo_sizes, .ref mo_cells, .int 0, .ref mo_had])), (mo_st, .inl (k 0, 132, .inl (upd hst i.toNatClampNeg v)))] H := hP
  have hD : va_D A [(mo, .inr (7, [.ref mo_st, .ref mo_at, .ref mo_isKept, .int 0, .int 2, .ref mo_draft, .int 0, .int 2, .int 0, .int (-4), .ref mo_tape, .int 0, .int 0, .int 0, .int 0, .int 0, .int 0, .int 0, .ref mo_row, .int 0, .int 0, .int 0, .int 0, .ref mo_before, .long 0, .long 0, .long 0, .ref mo_lanes, .ref mo_sizes, .ref mo_cells, .int 0, .ref mo_had])), (mo_st, .inl (k 0, 132, .inl (upd hst i.toNatClampNeg v)))] := hD
  refine lv_iload_n hx hb dX8_becomes_14 rfl (lv_at hl 0 rfl) ?_
  exact hs_iret hx hb hr hlocks hK hP hD hS () [] rfl (by decide) dX8_becomes_15 (rfl)

set_option maxHeartbeats 4000000 in
set_option maxRecDepth 100000 in
theorem m_byteAt0 (l : Launch) (D : va_G) (k : Nat → ClassId) (sz : Nat) (mo : Nat) (mo_st : Nat) (mo_at : Nat) (mo_isKept : Nat) (mo_people : Int32) (mo_halfMany : Int32) (mo_draft : Nat) (mo_dPeople : Int32) (mo_dHalves : Int32) (mo_toldLines : Int32) (mo_highest : Int32) (mo_tape : Nat) (mo_pos : Int32) (mo_from : Int32) (mo_sort : Int32) (mo_value : Int32) (mo_fault : Int32) (mo_wrongAt : Int32) (mo_row : Nat) (mo_orderMany : Int32) (mo_firstOrder : Int32) (mo_lightest : Int32) (mo_heaviest : Int32) (mo_before : Nat) (mo_justSum : Int64) (mo_toldSum : Int64) (mo_allWays : Int64) (mo_lanes : Nat) (mo_sizes : Nat) (mo_cells : Nat) (mo_torn : Int32) (mo_had : Nat)  : MI l yX8_byteAt wsX8_byteAt ({ frames := 0, cells := 0, slots := 0, locals := 0 }) D k [.ref mo, .int 0] [(mo, .inr (7, [.ref mo_st, .ref mo_at, .ref mo_isKept, .int mo_people, .int mo_halfMany, .ref mo_draft, .int mo_dPeople, .int mo_dHalves, .int mo_toldLines, .int mo_highest, .ref mo_tape, .int 0, .int mo_pos, .int mo_from, .int mo_sort, .int mo_value, .int mo_fault, .int mo_wrongAt, .ref mo_row, .int mo_orderMany, .int mo_firstOrder, .int mo_lightest, .int mo_heaviest, .ref mo_before, .long mo_justSum, .long mo_toldSum, .long mo_allWays, .ref mo_lanes, .ref mo_sizes, .ref mo_cells, .int mo_torn, .ref mo_had]))] sz (fun (r : Int32) (u : Unit) => r = (-1)) (fun (u : Unit) => [(mo, .inr (7, [.ref mo_st, .ref mo_at, .ref mo_isKept, .int mo_people, .int mo_halfMany, .ref mo_draft, .int mo_dPeople, .int mo_dHalves, .int mo_toldLines, .int mo_highest, .ref mo_tape, .int 0, .int mo_pos, .int mo_from, .int mo_sort, .int mo_value, .int mo_fault, .int mo_wrongAt, .ref mo_row, .int mo_orderMany, .int mo_firstOrder, .int mo_lightest, .int mo_heaviest, .ref mo_before, .long mo_justSum, .long mo_toldSum, .long mo_allWays, .ref mo_lanes, .ref mo_sizes, .ref mo_cells, .int mo_torn, .ref mo_had]))]) := by
  refine Met.ofW (cc := cX8_byteAt) (maxL := 2) (ret := (some .int)) (by decide) rfl ?_
  intro p e s m args below meth c s₁ B hml hv
  obtain ⟨rfl, hsz, hP, hK, hD0, hN⟩ := hv
  have hx := B.exec
  have hb := B.bytes
  have hr := B.returns
  have hlocks := B.notSynchronized
  have hts := atoms_spec (ws := wsX8_byteAt) B.pre
  have hown : s.vm.findClass RX8 = some m.cls := findClass_of_methodNamed B.named
  have hiX8 : ∀ w ∈ u_ws RX8 TX8 32, w ∈ wsX8_byteAt := by decide +kernel
  have fl75 := hts (.fieldLink RX8 75 "HalfScalesModel" "taped" "I") (by decide +kernel)
  subst hsz
  have hD := hD0.self (sz := s.heap.size)
  generalize hAe : va_A [(mo, .inr (7, [.ref mo_st, .ref mo_at, .ref mo_isKept, .int mo_people, .int mo_halfMany, .ref mo_draft, .int mo_dPeople, .int mo_dHalves, .int mo_toldLines, .int mo_highest, .ref mo_tape, .int 0, .int mo_pos, .int mo_from, .int mo_sort, .int mo_value, .int mo_fault, .int mo_wrongAt, .ref mo_row, .int mo_orderMany, .int mo_firstOrder, .int mo_lightest, .int mo_heaviest, .ref mo_before, .long mo_justSum, .long mo_toldSum, .long mo_allWays, .ref mo_lanes, .ref mo_sizes, .ref mo_cells, .int mo_torn, .ref mo_had]))] s.heap.size = A at hD ⊢
  have hA : ∀ q : Nat, s.heap.size ≤ q → A q := fun q h => by rw [← hAe]; exact Or.inr h
  have hS : va_S A s.heap s.heap [] := va_S.rf
  have hl := lv_entry ([.ref mo, .int 0]) (n := 2) (Nat.le_of_ble_eq_true rfl)
  rw [lg_entry_eq]
  generalize (lg_sl ([.ref mo, .int 0]) ++ List.replicate (2 - (lg_sl ([.ref mo, .int 0])).length) Slot.unset).toArray = ls at hl ⊢
  have hl : lv_has ls 2 [(0, .ref mo), (1, .int 0)] := hl
  have hP : va_P D vwCl [(mo, .inr (7, [.ref mo_st, .ref mo_at, .ref mo_isKept, .int mo_people, .int mo_halfMany, .ref mo_draft, .int mo_dPeople, .int mo_dHalves, .int mo_toldLines, .int mo_highest, .ref mo_tape, .int 0, .int mo_pos, .int mo_from, .int mo_sort, .int mo_value, .int mo_fault, .int mo_wrongAt, .ref mo_row, .int mo_orderMany, .int mo_firstOrder, .int mo_lightest, .int mo_heaviest, .ref mo_before, .long mo_justSum, .long mo_toldSum, .long mo_allWays, .ref mo_lanes, .ref mo_sizes, .ref mo_cells, .int mo_torn, .ref mo_had]))] s.heap := hP
  refine lv_iload_n hx hb dX8_byteAt_0 rfl (lv_at hl 1 rfl) ?_
  refine lv_aload_n hx hb dX8_byteAt_1 rfl (lv_at hl 0 rfl) ?_
  refine va_get (D := D) (ci := 7) (v := .int 0) (C := RX8) (T := TX8) (N := 32) hx hb hts hiX8 hown hK hP 0 rfl rfl 11 (by decide) fl75 (fun _ h9 => h9) rfl dX8_byteAt_2 ?_
  refine lv_icmp_ge (tgt := 17) hx hb dX8_byteAt_5 (by decide) (fun c_1 => ?_) (fun c_1 => absurd c_1 (by decide))
  refine lv_iconst (v := (-1)) hx hb dX8_byteAt_17 (by decide) ?_
  exact hs_iret hx hb hr hlocks hK hP hD hS () [0] rfl (by decide) dX8_byteAt_18 (rfl)

set_option maxHeartbeats 4000000 in
set_option maxRecDepth 100000 in
theorem m_needs1 (l : Launch) (D : va_G) (k : Nat → ClassId) (sz : Nat) (mo : Nat) (mo_st : Nat) (mo_at : Nat) (mo_isKept : Nat) (mo_people : Int32) (mo_halfMany : Int32) (mo_draft : Nat) (mo_dPeople : Int32) (mo_dHalves : Int32) (mo_toldLines : Int32) (mo_highest : Int32) (mo_tape : Nat) (mo_taped : Int32) (mo_pos : Int32) (mo_from : Int32) (mo_sort : Int32) (mo_value : Int32) (mo_fault : Int32) (mo_wrongAt : Int32) (mo_row : Nat) (mo_orderMany : Int32) (mo_firstOrder : Int32) (mo_lightest : Int32) (mo_heaviest : Int32) (mo_before : Nat) (mo_justSum : Int64) (mo_toldSum : Int64) (mo_allWays : Int64) (mo_lanes : Nat) (mo_sizes : Nat) (mo_cells : Nat) (mo_torn : Int32) (mo_had : Nat) (a : Int32)  : MV l yX8_needs wsX8_needs ({ frames := 0, cells := 0, slots := 0, locals := 0 }) D k [.ref mo, .int 1, .int a] [(mo, .inr (7, [.ref mo_st, .ref mo_at, .ref mo_isKept, .int mo_people, .int mo_halfMany, .ref mo_draft, .int mo_dPeople, .int mo_dHalves, .int mo_toldLines, .int mo_highest, .ref mo_tape, .int mo_taped, .int mo_pos, .int mo_from, .int mo_sort, .int mo_value, .int mo_fault, .int mo_wrongAt, .ref mo_row, .int mo_orderMany, .int mo_firstOrder, .int mo_lightest, .int mo_heaviest, .ref mo_before, .long mo_justSum, .long mo_toldSum, .long mo_allWays, .ref mo_lanes, .ref mo_sizes, .ref mo_cells, .int mo_torn, .ref mo_had]))] sz (fun (u : Unit) => True) (fun (u : Unit) => [(mo, .inr (7, [.ref mo_st, .ref mo_at, .ref mo_isKept, .int mo_people, .int mo_halfMany, .ref mo_draft, .int mo_dPeople, .int mo_dHalves, .int mo_toldLines, .int mo_highest, .ref mo_tape, .int mo_taped, .int mo_pos, .int mo_from, .int mo_sort, .int mo_value, .int mo_fault, .int mo_wrongAt, .ref mo_row, .int mo_orderMany, .int mo_firstOrder, .int mo_lightest, .int mo_heaviest, .ref mo_before, .long mo_justSum, .long mo_toldSum, .long mo_allWays, .ref mo_lanes, .ref mo_sizes, .ref mo_cells, .int mo_torn, .ref mo_had]))]) := by
  refine Met.ofW (cc := cX8_needs) (maxL := 3) (ret := none) (by decide) rfl ?_
  intro p e s m args below meth c s₁ B hml hv
  obtain ⟨rfl, hsz, hP, hK, hD0, hN⟩ := hv
  have hx := B.exec
  have hb := B.bytes
  have hr := B.returns
  have hlocks := B.notSynchronized
  have hts := atoms_spec (ws := wsX8_needs) B.pre
  have hown : s.vm.findClass RX8 = some m.cls := findClass_of_methodNamed B.named
  subst hsz
  have hD := hD0.self (sz := s.heap.size)
  generalize hAe : va_A [(mo, .inr (7, [.ref mo_st, .ref mo_at, .ref mo_isKept, .int mo_people, .int mo_halfMany, .ref mo_draft, .int mo_dPeople, .int mo_dHalves, .int mo_toldLines, .int mo_highest, .ref mo_tape, .int mo_taped, .int mo_pos, .int mo_from, .int mo_sort, .int mo_value, .int mo_fault, .int mo_wrongAt, .ref mo_row, .int mo_orderMany, .int mo_firstOrder, .int mo_lightest, .int mo_heaviest, .ref mo_before, .long mo_justSum, .long mo_toldSum, .long mo_allWays, .ref mo_lanes, .ref mo_sizes, .ref mo_cells, .int mo_torn, .ref mo_had]))] s.heap.size = A at hD ⊢
  have hA : ∀ q : Nat, s.heap.size ≤ q → A q := fun q h => by rw [← hAe]; exact Or.inr h
  have hS : va_S A s.heap s.heap [] := va_S.rf
  have hl := lv_entry ([.ref mo, .int 1, .int a]) (n := 3) (Nat.le_of_ble_eq_true rfl)
  rw [lg_entry_eq]
  generalize (lg_sl ([.ref mo, .int 1, .int a]) ++ List.replicate (3 - (lg_sl ([.ref mo, .int 1, .int a])).length) Slot.unset).toArray = ls at hl ⊢
  have hl : lv_has ls 3 [(0, .ref mo), (1, .int 1), (2, .int a)] := hl
  have hP : va_P D vwCl [(mo, .inr (7, [.ref mo_st, .ref mo_at, .ref mo_isKept, .int mo_people, .int mo_halfMany, .ref mo_draft, .int mo_dPeople, .int mo_dHalves, .int mo_toldLines, .int mo_highest, .ref mo_tape, .int mo_taped, .int mo_pos, .int mo_from, .int mo_sort, .int mo_value, .int mo_fault, .int mo_wrongAt, .ref mo_row, .int mo_orderMany, .int mo_firstOrder, .int mo_lightest, .int mo_heaviest, .ref mo_before, .long mo_justSum, .long mo_toldSum, .long mo_allWays, .ref mo_lanes, .ref mo_sizes, .ref mo_cells, .int mo_torn, .ref mo_had]))] s.heap := hP
  refine lv_iload_n hx hb dX8_needs_0 rfl (lv_at hl 1 rfl) ?_
  refine lv_if_ne (tgt := 24) hx hb dX8_needs_1 (by decide) (fun c_1 => ?_) (fun c_1 => absurd c_1 (by decide))
  exact hs_vret hx hb hr hlocks hK hP hD hS () [0] rfl (by decide) dX8_needs_24 (trivial)

set_option maxHeartbeats 4000000 in
set_option maxRecDepth 100000 in
theorem m_takes0 (l : Launch) (D : va_G) (k : Nat → ClassId) (sz : Nat) (mo : Nat) (mo_st : Nat) (mo_at : Nat) (mo_isKept : Nat) (mo_people : Int32) (mo_halfMany : Int32) (mo_draft : Nat) (mo_dPeople : Int32) (mo_dHalves : Int32) (mo_toldLines : Int32) (mo_highest : Int32) (mo_tape : Nat) (mo_from : Int32) (mo_sort : Int32) (mo_value : Int32) (mo_wrongAt : Int32) (mo_row : Nat) (mo_orderMany : Int32) (mo_firstOrder : Int32) (mo_lightest : Int32) (mo_heaviest : Int32) (mo_before : Nat) (mo_justSum : Int64) (mo_toldSum : Int64) (mo_allWays : Int64) (mo_lanes : Nat) (mo_sizes : Nat) (mo_cells : Nat) (mo_torn : Int32) (mo_had : Nat)  : MV l yX8_takes wsX8_takes ({ frames := 1, cells := 0, slots := 0, locals := 21 }) D k [.ref mo] [(mo, .inr (7, [.ref mo_st, .ref mo_at, .ref mo_isKept, .int mo_people, .int mo_halfMany, .ref mo_draft, .int mo_dPeople, .int mo_dHalves, .int mo_toldLines, .int mo_highest, .ref mo_tape, .int 0, .int 0, .int mo_from, .int mo_sort, .int mo_value, .int 0, .int mo_wrongAt, .ref mo_row, .int mo_orderMany, .int mo_firstOrder, .int mo_lightest, .int mo_heaviest, .ref mo_before, .long mo_justSum, .long mo_toldSum, .long mo_allWays, .ref mo_lanes, .ref mo_sizes, .ref mo_cells, .int mo_torn, .ref mo_had]))] sz (fun (u : Unit) => True) (fun (u : Unit) => [(mo, .inr (7, [.ref mo_st, .ref mo_at, .ref mo_isKept, .int mo_people, .int mo_halfMany, .ref mo_draft, .int mo_dPeople, .int mo_dHalves, .int mo_toldLines, .int mo_highest, .ref mo_tape, .int 0, .int 0, .int 0, .int 0, .int mo_value, .int 0, .int mo_wrongAt, .ref mo_row, .int mo_orderMany, .int mo_firstOrder, .int mo_lightest, .int mo_heaviest, .ref mo_before, .long mo_justSum, .long mo_toldSum, .long mo_allWays, .ref mo_lanes, .ref mo_sizes, .ref mo_cells, .int mo_torn, .ref mo_had]))]) := by
  refine Met.ofW (cc := cX8_takes) (maxL := 2) (ret := none) (by decide) rfl ?_
  intro p e s m args below meth c s₁ B hml hv
  obtain ⟨rfl, hsz, hP, hK, hD0, hN⟩ := hv
  have hx := B.exec
  have hb := B.bytes
  have hr := B.returns
  have hlocks := B.notSynchronized
  have hts := atoms_spec (ws := wsX8_takes) B.pre
  have hown : s.vm.findClass RX8 = some m.cls := findClass_of_methodNamed B.named
  have hiX8 : ∀ w ∈ u_ws RX8 TX8 32, w ∈ wsX8_takes := by decide +kernel
  have fl78 := hts (.fieldLink RX8 78 "HalfScalesModel" "fault" "I") (by decide +kernel)
  have fl87 := hts (.fieldLink RX8 87 "HalfScalesModel" "pos" "I") (by decide +kernel)
  have fl81 := hts (.fieldLink RX8 81 "HalfScalesModel" "from" "I") (by decide +kernel)
  have fl101 := hts (.fieldLink RX8 101 "HalfScalesModel" "sort" "I") (by decide +kernel)
  subst hsz
  have hD := hD0.self (sz := s.heap.size)
  generalize hAe : va_A [(mo, .inr (7, [.ref mo_st, .ref mo_at, .ref mo_isKept, .int mo_people, .int mo_halfMany, .ref mo_draft, .int mo_dPeople, .int mo_dHalves, .int mo_toldLines, .int mo_highest, .ref mo_tape, .int 0, .int 0, .int mo_from, .int mo_sort, .int mo_value, .int 0, .int mo_wrongAt, .ref mo_row, .int mo_orderMany, .int mo_firstOrder, .int mo_lightest, .int mo_heaviest, .ref mo_before, .long mo_justSum, .long mo_toldSum, .long mo_allWays, .ref mo_lanes, .ref mo_sizes, .ref mo_cells, .int mo_torn, .ref mo_had]))] s.heap.size = A at hD ⊢
  have hA : ∀ q : Nat, s.heap.size ≤ q → A q := fun q h => by rw [← hAe]; exact Or.inr h
  have hS : va_S A s.heap s.heap [] := va_S.rf
  have hl := lv_entry ([.ref mo]) (n := 2) (Nat.le_of_ble_eq_true rfl)
  rw [lg_entry_eq]
  generalize (lg_sl ([.ref mo]) ++ List.replicate (2 - (lg_sl ([.ref mo])).length) Slot.unset).toArray = ls at hl ⊢
  have hl : lv_has ls 2 [(0, .ref mo)] := hl
  have hP : va_P D vwCl [(mo, .inr (7, [.ref mo_st, .ref mo_at, .ref mo_isKept, .int mo_people, .int mo_halfMany, .ref mo_draft, .int mo_dPeople, .int mo_dHalves, .int mo_toldLines, .int mo_highest, .ref mo_tape, .int 0, .int 0, .int mo_from, .int mo_sort, .int mo_value, .int 0, .int mo_wrongAt, .ref mo_row, .int mo_orderMany, .int mo_firstOrder, .int mo_lightest, .int mo_heaviest, .ref mo_before, .long mo_justSum, .long mo_toldSum, .long mo_allWays, .ref mo_lanes, .ref mo_sizes, .ref mo_cells, .int mo_torn, .ref mo_had]))] s.heap := hP
  refine lv_aload_n hx hb dX8_takes_0 rfl (lv_at hl 0 rfl) ?_
  refine va_get (D := D) (ci := 7) (v := .int 0) (C := RX8) (T := TX8) (N := 32) hx hb hts hiX8 hown hK hP 0 rfl rfl 16 (by decide) fl78 (fun _ h9 => h9) rfl dX8_takes_1 ?_
  refine lv_if_le (tgt := 8) hx hb dX8_takes_4 (by decide) (fun c_1 => ?_) (fun c_1 => absurd c_1 (by decide))
  refine lv_aload_n hx hb dX8_takes_8 rfl (lv_at hl 0 rfl) ?_
  refine lv_aload_n hx hb dX8_takes_9 rfl (lv_at hl 0 rfl) ?_
  refine va_get (D := D) (ci := 7) (v := .int 0) (C := RX8) (T := TX8) (N := 32) hx hb hts hiX8 hown hK hP 0 rfl rfl 12 (by decide) fl87 (fun _ h9 => h9) rfl dX8_takes_10 ?_
  refine hs_ci (va_runV (As := [.int 0]) (rest := []) ⟨hx, hb, hml, hown, hts⟩ (m_byteAt0 l D k _ mo mo_st mo_at mo_isKept mo_people mo_halfMany mo_draft mo_dPeople mo_dHalves mo_toldLines mo_highest mo_tape 0 mo_from mo_sort mo_value 0 mo_wrongAt mo_row mo_orderMany mo_firstOrder mo_lightest mo_heaviest mo_before mo_justSum mo_toldSum mo_allWays mo_lanes mo_sizes mo_cells mo_torn mo_had) (cwV 1 hts gX8_takes_X8_byteAt rfl rfl rfl (by decide +kernel) ⟨Nat.le_of_ble_eq_true rfl, Nat.le_of_ble_eq_true rfl⟩) (hs_preV hK hN (hs_subP (w := [(mo, .inr (7, [.ref mo_st, .ref mo_at, .ref mo_isKept, .int mo_people, .int mo_halfMany, .ref mo_draft, .int mo_dPeople, .int mo_dHalves, .int mo_toldLines, .int mo_highest, .ref mo_tape, .int 0, .int 0, .int mo_from, .int mo_sort, .int mo_value, .int 0, .int mo_wrongAt, .ref mo_row, .int mo_orderMany, .int mo_firstOrder, .int mo_lightest, .int mo_heaviest, .ref mo_before, .long mo_justSum, .long mo_toldSum, .long mo_allWays, .ref mo_lanes, .ref mo_sizes, .ref mo_cells, .int mo_torn, .ref mo_had]))]) hP [0] rfl) (hD.sub (ws' := [(mo, .inr (7, [.ref mo_st, .ref mo_at, .ref mo_isKept, .int mo_people, .int mo_halfMany, .ref mo_draft, .int mo_dPeople, .int mo_dHalves, .int mo_toldLines, .int mo_highest, .ref mo_tape, .int 0, .int 0, .int mo_from, .int mo_sort, .int mo_value, .int 0, .int mo_wrongAt, .ref mo_row, .int mo_orderMany, .int mo_firstOrder, .int mo_lightest, .int mo_heaviest, .ref mo_before, .long mo_justSum, .long mo_toldSum, .long mo_allWays, .ref mo_lanes, .ref mo_sizes, .ref mo_cells, .int mo_torn, .ref mo_had]))]) [0] (by decide) rfl) (ci := 7) (q0 := 0) rfl rfl) rfl rfl hl.1 rfl (lv_room (Nat.le_of_ble_eq_true rfl)) dX8_takes_13 ⟨Nat.le_of_ble_eq_true rfl, Nat.le_of_ble_eq_true rfl⟩) hP hD hS hA [0] [] [] rfl rfl (by decide) (by decide) [0] (fun u_4 => [(mo, .inr (7, [.ref mo_st, .ref mo_at, .ref mo_isKept, .int mo_people, .int mo_halfMany, .ref mo_draft, .int mo_dPeople, .int mo_dHalves, .int mo_toldLines, .int mo_highest, .ref mo_tape, .int 0, .int 0, .int mo_from, .int mo_sort, .int mo_value, .int 0, .int mo_wrongAt, .ref mo_row, .int mo_orderMany, .int mo_firstOrder, .int mo_lightest, .int mo_heaviest, .ref mo_before, .long mo_justSum, .long mo_toldSum, .long mo_allWays, .ref mo_lanes, .ref mo_sizes, .ref mo_cells, .int mo_torn, .ref mo_had]))]) (fun _ => rfl) (by decide) (fun r_2 u_4 H locs hw_3 hP hD hS => ?_)
  have hP : va_P D vwCl [(mo, .inr (7, [.ref mo_st, .ref mo_at, .ref mo_isKept, .int mo_people, .int mo_halfMany, .ref mo_draft, .int mo_dPeople, .int mo_dHalves, .int mo_toldLines, .int mo_highest, .ref mo_tape, .int 0, .int 0, .int mo_from, .int mo_sort, .int mo_value, .int 0, .int mo_wrongAt, .ref mo_row, .int mo_orderMany, .int mo_firstOrder, .int mo_lightest, .int mo_heaviest, .ref mo_before, .long mo_justSum, .long mo_toldSum, .long mo_allWays, .ref mo_lanes, .ref mo_sizes, .ref mo_cells, .int mo_torn, .ref mo_had]))] H := hP
  have hD : va_D A [(mo, .inr (7, [.ref mo_st, .ref mo_at, .ref mo_isKept, .int mo_people, .int mo_halfMany, .ref mo_draft, .int mo_dPeople, .int mo_dHalves, .int mo_toldLines, .int mo_highest, .ref mo_tape, .int 0, .int 0, .int mo_from, .int mo_sort, .int mo_value, .int 0, .int mo_wrongAt, .ref mo_row, .int mo_orderMany, .int mo_firstOrder, .int mo_lightest, .int mo_heaviest, .ref mo_before, .long mo_justSum, .long mo_toldSum, .long mo_allWays, .ref mo_lanes, .ref mo_sizes, .ref mo_cells, .int mo_torn, .ref mo_had]))] := hD
  refine hs_topi (-1) (hw_3.trans (by first | rfl | decide +kernel | rfl)) ?_
  refine lv_bipush (v := 32) hx hb dX8_takes_16 (by decide) ?_
  refine lv_icmp_ne (tgt := 34) hx hb dX8_takes_18 (by decide) (fun c_5 => ?_) (fun c_5 => absurd c_5 (by decide))
  refine lv_aload_n hx hb dX8_takes_34 rfl (lv_at hl 0 rfl) ?_
  refine lv_aload_n hx hb dX8_takes_35 rfl (lv_at hl 0 rfl) ?_
  refine va_get (D := D) (ci := 7) (v := .int 0) (C := RX8) (T := TX8) (N := 32) hx hb hts hiX8 hown hK hP 0 rfl rfl 12 (by decide) fl87 (fun _ h9 => h9) rfl dX8_takes_36 ?_
  refine va_put (D := D) (ci := 7) (v := .int 0) (ty := .int) (C := RX8) (T := TX8) (N := 32) hx hb hts hiX8 tyX8 tyX8_ok nmX8 hown hK hP hD hS 0 rfl rfl 13 (by decide) fl81 (fun _ h9 => h9) rfl (by decide +kernel) rfl rfl (Nat.le_of_ble_eq_true rfl) dX8_takes_39 (fun H locs hP hD hS => ?_)
  have hP : va_P D vwCl [(mo, .inr (7, [.ref mo_st, .ref mo_at, .ref mo_isKept, .int mo_people, .int mo_halfMany, .ref mo_draft, .int mo_dPeople, .int mo_dHalves, .int mo_toldLines, .int mo_highest, .ref mo_tape, .int 0, .int 0, .int 0, .int mo_sort, .int mo_value, .int 0, .int mo_wrongAt, .ref mo_row, .int mo_orderMany, .int mo_firstOrder, .int mo_lightest, .int mo_heaviest, .ref mo_before, .long mo_justSum, .long mo_toldSum, .long mo_allWays, .ref mo_lanes, .ref mo_sizes, .ref mo_cells, .int mo_torn, .ref mo_had]))] H := hP
  have hD : va_D A [(mo, .inr (7, [.ref mo_st, .ref mo_at, .ref mo_isKept, .int mo_people, .int mo_halfMany, .ref mo_draft, .int mo_dPeople, .int mo_dHalves, .int mo_toldLines, .int mo_highest, .ref mo_tape, .int 0, .int 0, .int 0, .int mo_sort, .int mo_value, .int 0, .int mo_wrongAt, .ref mo_row, .int mo_orderMany, .int mo_firstOrder, .int mo_lightest, .int mo_heaviest, .ref mo_before, .long mo_justSum, .long mo_toldSum, .long mo_allWays, .ref mo_lanes, .ref mo_sizes, .ref mo_cells, .int mo_torn, .ref mo_had]))] := hD
  refine lv_aload_n hx hb dX8_takes_42 rfl (lv_at hl 0 rfl) ?_
  refine lv_aload_n hx hb dX8_takes_43 rfl (lv_at hl 0 rfl) ?_
  refine va_get (D := D) (ci := 7) (v := .int 0) (C := RX8) (T := TX8) (N := 32) hx hb hts hiX8 hown hK hP 0 rfl rfl 12 (by decide) fl87 (fun _ h9 => h9) rfl dX8_takes_44 ?_
  refine hs_ci (va_runV (As := [.int 0]) (rest := []) ⟨hx, hb, hml, hown, hts⟩ (m_byteAt0 l D k _ mo mo_st mo_at mo_isKept mo_people mo_halfMany mo_draft mo_dPeople mo_dHalves mo_toldLines mo_highest mo_tape 0 0 mo_sort mo_value 0 mo_wrongAt mo_row mo_orderMany mo_firstOrder mo_lightest mo_heaviest mo_before mo_justSum mo_toldSum mo_allWays mo_lanes mo_sizes mo_cells mo_torn mo_had) (cwV 1 hts gX8_takes_X8_byteAt rfl rfl rfl (by decide +kernel) ⟨Nat.le_of_ble_eq_true rfl, Nat.le_of_ble_eq_true rfl⟩) (hs_preV hK hN (hs_subP (w := [(mo, .inr (7, [.ref mo_st, .ref mo_at, .ref mo_isKept, .int mo_people, .int mo_halfMany, .ref mo_draft, .int mo_dPeople, .int mo_dHalves, .int mo_toldLines, .int mo_highest, .ref mo_tape, .int 0, .int 0, .int 0, .int mo_sort, .int mo_value, .int 0, .int mo_wrongAt, .ref mo_row, .int mo_orderMany, .int mo_firstOrder, .int mo_lightest, .int mo_heaviest, .ref mo_before, .long mo_justSum, .long mo_toldSum, .long mo_allWays, .ref mo_lanes, .ref mo_sizes, .ref mo_cells, .int mo_torn, .ref mo_had]))]) hP [0] rfl) (hD.sub (ws' := [(mo, .inr (7, [.ref mo_st, .ref mo_at, .ref mo_isKept, .int mo_people, .int mo_halfMany, .ref mo_draft, .int mo_dPeople, .int mo_dHalves, .int mo_toldLines, .int mo_highest, .ref mo_tape, .int 0, .int 0, .int 0, .int mo_sort, .int mo_value, .int 0, .int mo_wrongAt, .ref mo_row, .int mo_orderMany, .int mo_firstOrder, .int mo_lightest, .int mo_heaviest, .ref mo_before, .long mo_justSum, .long mo_toldSum, .long mo_allWays, .ref mo_lanes, .ref mo_sizes, .ref mo_cells, .int mo_torn, .ref mo_had]))]) [0] (by decide) rfl) (ci := 7) (q0 := 0) rfl rfl) rfl rfl hl.1 rfl (lv_room (Nat.le_of_ble_eq_true rfl)) dX8_takes_47 ⟨Nat.le_of_ble_eq_true rfl, Nat.le_of_ble_eq_true rfl⟩) hP hD hS hA [0] [] [] rfl rfl (by decide) (by decide) [0] (fun u_8 => [(mo, .inr (7, [.ref mo_st, .ref mo_at, .ref mo_isKept, .int mo_people, .int mo_halfMany, .ref mo_draft, .int mo_dPeople, .int mo_dHalves, .int mo_toldLines, .int mo_highest, .ref mo_tape, .int 0, .int 0, .int 0, .int mo_sort, .int mo_value, .int 0, .int mo_wrongAt, .ref mo_row, .int mo_orderMany, .int mo_firstOrder, .int mo_lightest, .int mo_heaviest, .ref mo_before, .long mo_justSum, .long mo_toldSum, .long mo_allWays, .ref mo_lanes, .ref mo_sizes, .ref mo_cells, .int mo_torn, .ref mo_had]))]) (fun _ => rfl) (by decide) (fun r_6 u_8 H locs hw_7 hP hD hS => ?_)
  have hP : va_P D vwCl [(mo, .inr (7, [.ref mo_st, .ref mo_at, .ref mo_isKept, .int mo_people, .int mo_halfMany, .ref mo_draft, .int mo_dPeople, .int mo_dHalves, .int mo_toldLines, .int mo_highest, .ref mo_tape, .int 0, .int 0, .int 0, .int mo_sort, .int mo_value, .int 0, .int mo_wrongAt, .ref mo_row, .int mo_orderMany, .int mo_firstOrder, .int mo_lightest, .int mo_heaviest, .ref mo_before, .long mo_justSum, .long mo_toldSum, .long mo_allWays, .ref mo_lanes, .ref mo_sizes, .ref mo_cells, .int mo_torn, .ref mo_had]))] H := hP
  have hD : va_D A [(mo, .inr (7, [.ref mo_st, .ref mo_at, .ref mo_isKept, .int mo_people, .int mo_halfMany, .ref mo_draft, .int mo_dPeople, .int mo_dHalves, .int mo_toldLines, .int mo_highest, .ref mo_tape, .int 0, .int 0, .int 0, .int mo_sort, .int mo_value, .int 0, .int mo_wrongAt, .ref mo_row, .int mo_orderMany, .int mo_firstOrder, .int mo_lightest, .int mo_heaviest, .ref mo_before, .long mo_justSum, .long mo_toldSum, .long mo_allWays, .ref mo_lanes, .ref mo_sizes, .ref mo_cells, .int mo_torn, .ref mo_had]))] := hD
  refine hs_topi (-1) (hw_7.trans (by first | rfl | decide +kernel | rfl)) ?_
  refine lv_istore_n (lv' := [(1, .int (-1)), (0, .ref mo)]) hx hb dX8_takes_50 rfl hl (by decide) rfl (fun ls hl => ?_)
  refine lv_iload_n hx hb dX8_takes_51 rfl (lv_at hl 0 rfl) ?_
  refine lv_if_ge (tgt := 63) hx hb dX8_takes_52 (by decide) (fun c_9 => absurd c_9 (by decide)) (fun c_9 => ?_)
  refine lv_aload_n hx hb dX8_takes_55 rfl (lv_at hl 1 rfl) ?_
  refine lv_iconst (v := 0) hx hb dX8_takes_56 (by decide) ?_
  refine va_put (D := D) (ci := 7) (v := .int 0) (ty := .int) (C := RX8) (T := TX8) (N := 32) hx hb hts hiX8 tyX8 tyX8_ok nmX8 hown hK hP hD hS 0 rfl rfl 14 (by decide) fl101 (fun _ h9 => h9) rfl (by decide +kernel) rfl rfl (Nat.le_of_ble_eq_true rfl) dX8_takes_57 (fun H locs hP hD hS => ?_)
  have hP : va_P D vwCl [(mo, .inr (7, [.ref mo_st, .ref mo_at, .ref mo_isKept, .int mo_people, .int mo_halfMany, .ref mo_draft, .int mo_dPeople, .int mo_dHalves, .int mo_toldLines, .int mo_highest, .ref mo_tape, .int 0, .int 0, .int 0, .int 0, .int mo_value, .int 0, .int mo_wrongAt, .ref mo_row, .int mo_orderMany, .int mo_firstOrder, .int mo_lightest, .int mo_heaviest, .ref mo_before, .long mo_justSum, .long mo_toldSum, .long mo_allWays, .ref mo_lanes, .ref mo_sizes, .ref mo_cells, .int mo_torn, .ref mo_had]))] H := hP
  have hD : va_D A [(mo, .inr (7, [.ref mo_st, .ref mo_at, .ref mo_isKept, .int mo_people, .int mo_halfMany, .ref mo_draft, .int mo_dPeople, .int mo_dHalves, .int mo_toldLines, .int mo_highest, .ref mo_tape, .int 0, .int 0, .int 0, .int 0, .int mo_value, .int 0, .int mo_wrongAt, .ref mo_row, .int mo_orderMany, .int mo_firstOrder, .int mo_lightest, .int mo_heaviest, .ref mo_before, .long mo_justSum, .long mo_toldSum, .long mo_allWays, .ref mo_lanes, .ref mo_sizes, .ref mo_cells, .int mo_torn, .ref mo_had]))] := hD
  refine lv_goto (tgt := 274) hx hb dX8_takes_60 (by decide) ?_
  exact hs_vret hx hb hr hlocks hK hP hD hS () [0] rfl (by decide) dX8_takes_274 (trivial)

set_option maxHeartbeats 4000000 in
set_option maxRecDepth 100000 in
theorem m_cutsOf_0 (l : Launch) (D : va_G) (k : Nat → ClassId) (sz : Nat) (mo : Nat) (mo_st : Nat) (mo_at : Nat) (mo_isKept : Nat) (mo_people : Int32) (mo_halfMany : Int32) (mo_draft : Nat) (mo_dPeople : Int32) (mo_dHalves : Int32) (mo_toldLines : Int32) (mo_highest : Int32) (mo_tape : Nat) (mo_taped : Int32) (mo_pos : Int32) (mo_from : Int32) (mo_sort : Int32) (mo_value : Int32) (mo_fault : Int32) (mo_wrongAt : Int32) (mo_row : Nat) (mo_orderMany : Int32) (mo_firstOrder : Int32) (mo_lightest : Int32) (mo_heaviest : Int32) (mo_before : Nat) (mo_justSum : Int64) (mo_toldSum : Int64) (mo_allWays : Int64) (mo_lanes : Nat) (mo_sizes : Nat) (mo_cells : Nat) (mo_torn : Int32) (mo_had : Nat)  : MI l yX8_cutsOf wsX8_cutsOf ({ frames := 1, cells := 0, slots := 0, locals := 20 }) D k [.ref mo, .int 0] [(mo, .inr (7, [.ref mo_st, .ref mo_at, .ref mo_isKept, .int mo_people, .int mo_halfMany, .ref mo_draft, .int mo_dPeople, .int mo_dHalves, .int mo_toldLines, .int mo_highest, .ref mo_tape, .int mo_taped, .int mo_pos, .int mo_from, .int mo_sort, .int mo_value, .int mo_fault, .int mo_wrongAt, .ref mo_row, .int mo_orderMany, .int mo_firstOrder, .int mo_lightest, .int mo_heaviest, .ref mo_before, .long mo_justSum, .long mo_toldSum, .long mo_allWays, .ref mo_lanes, .ref mo_sizes, .ref mo_cells, .int mo_torn, .ref mo_had])), (mo_at, .inl (k 0, 44, .inl (hst)))] sz (fun (r : Int32) (u : Unit) => r = 0) (fun (u : Unit) => [(mo, .inr (7, [.ref mo_st, .ref mo_at, .ref mo_isKept, .int mo_people, .int mo_halfMany, .ref mo_draft, .int mo_dPeople, .int mo_dHalves, .int mo_toldLines, .int mo_highest, .ref mo_tape, .int mo_taped, .int mo_pos, .int mo_from, .int mo_sort, .int mo_value, .int mo_fault, .int mo_wrongAt, .ref mo_row, .int mo_orderMany, .int mo_firstOrder, .int mo_lightest, .int mo_heaviest, .ref mo_before, .long mo_justSum, .long mo_toldSum, .long mo_allWays, .ref mo_lanes, .ref mo_sizes, .ref mo_cells, .int mo_torn, .ref mo_had])), (mo_at, .inl (k 0, 44, .inl (hst)))]) := by
  refine Met.ofW (cc := cX8_cutsOf) (maxL := 4) (ret := (some .int)) (by decide) rfl ?_
  intro p e s m args below meth c s₁ B hml hv
  obtain ⟨rfl, hsz, hP, hK, hD0, hN⟩ := hv
  have hx := B.exec
  have hb := B.bytes
  have hr := B.returns
  have hlocks := B.notSynchronized
  have hts := atoms_spec (ws := wsX8_cutsOf) B.pre
  have hown : s.vm.findClass RX8 = some m.cls := findClass_of_methodNamed B.named
  have hiX8 : ∀ w ∈ u_ws RX8 TX8 32, w ∈ wsX8_cutsOf := by decide +kernel
  have fl13 := hts (.fieldLink RX8 13 "HalfScalesModel" "at" "[I") (by decide +kernel)
  subst hsz
  have hD := hD0.self (sz := s.heap.size)
  generalize hAe : va_A [(mo, .inr (7, [.ref mo_st, .ref mo_at, .ref mo_isKept, .int mo_people, .int mo_halfMany, .ref mo_draft, .int mo_dPeople, .int mo_dHalves, .int mo_toldLines, .int mo_highest, .ref mo_tape, .int mo_taped, .int mo_pos, .int mo_from, .int mo_sort, .int mo_value, .int mo_fault, .int mo_wrongAt, .ref mo_row, .int mo_orderMany, .int mo_firstOrder, .int mo_lightest, .int mo_heaviest, .ref mo_before, .long mo_justSum, .long mo_toldSum, .long mo_allWays, .ref mo_lanes, .ref mo_sizes, .ref mo_cells, .int mo_torn, .ref mo_had])), (mo_at, .inl (k 0, 44, .inl (hst)))] s.heap.size = A at hD ⊢
  have hA : ∀ q : Nat, s.heap.size ≤ q → A q := fun q h => by rw [← hAe]; exact Or.inr h
  have hS : va_S A s.heap s.heap [] := va_S.rf
  have hl := lv_entry ([.ref mo, .int 0]) (n := 4) (Nat.le_of_ble_eq_true rfl)
  rw [lg_entry_eq]
  generalize (lg_sl ([.ref mo, .int 0]) ++ List.replicate (4 - (lg_sl ([.ref mo, .int 0])).length) Slot.unset).toArray = ls at hl ⊢
  have hl : lv_has ls 4 [(0, .ref mo), (1, .int 0)] := hl
  have hP : va_P D vwCl [(mo, .inr (7, [.ref mo_st, .ref mo_at, .ref mo_isKept, .int mo_people, .int mo_halfMany, .ref mo_draft, .int mo_dPeople, .int mo_dHalves, .int mo_toldLines, .int mo_highest, .ref mo_tape, .int mo_taped, .int mo_pos, .int mo_from, .int mo_sort, .int mo_value, .int mo_fault, .int mo_wrongAt, .ref mo_row, .int mo_orderMany, .int mo_firstOrder, .int mo_lightest, .int mo_heaviest, .ref mo_before, .long mo_justSum, .long mo_toldSum, .long mo_allWays, .ref mo_lanes, .ref mo_sizes, .ref mo_cells, .int mo_torn, .ref mo_had])), (mo_at, .inl (k 0, 44, .inl (hst)))] s.heap := hP
  refine lv_iconst (v := 0) hx hb dX8_cutsOf_0 (by decide) ?_
  refine lv_istore_n (lv' := [(2, .int 0), (0, .ref mo), (1, .int 0)]) hx hb dX8_cutsOf_1 rfl hl (by decide) rfl (fun ls hl => ?_)
  refine lv_iconst (v := 1) hx hb dX8_cutsOf_2 (by decide) ?_
  refine lv_istore_n (lv' := [(3, .int 1), (2, .int 0), (0, .ref mo), (1, .int 0)]) hx hb dX8_cutsOf_3 rfl hl (by decide) rfl (fun ls hl => ?_)
  refine lv_iload_n hx hb dX8_cutsOf_4 rfl (lv_at hl 0 rfl) ?_
  refine lv_aload_n hx hb dX8_cutsOf_5 rfl (lv_at hl 2 rfl) ?_
  refine va_get (D := D) (ci := 7) (v := .ref mo_at) (C := RX8) (T := TX8) (N := 32) hx hb hts hiX8 hown hK hP 0 rfl rfl 1 (by decide) fl13 (fun _ h9 => h9) rfl dX8_cutsOf_6 ?_
  refine lv_iconst (v := 0) hx hb dX8_cutsOf_9 (by decide) ?_
  refine va_iald hx hb hK hP 1 0 rfl rfl (hs_in (by decide)) dX8_cutsOf_10 ?_
  refine hs_topi 2 (by first | rfl | decide +kernel) ?_
  refine lv_icmp_ge (tgt := 46) hx hb dX8_cutsOf_11 (by decide) (fun c_1 => absurd c_1 (by decide)) (fun c_1 => ?_)
  refine lv_iload_n hx hb dX8_cutsOf_14 rfl (lv_at hl 1 rfl) ?_
  refine lv_iload_n hx hb dX8_cutsOf_15 rfl (lv_at hl 3 rfl) ?_
  refine lv_iload_n hx hb dX8_cutsOf_16 rfl (lv_at hl 0 rfl) ?_
  refine lv_ishr hx hb dX8_cutsOf_17 ?_
  refine hs_topi 0 (by first | rfl | decide +kernel) ?_
  refine lv_iconst (v := 1) hx hb dX8_cutsOf_18 (by decide) ?_
  refine lv_iand hx hb dX8_cutsOf_19 ?_
  refine hs_topi 0 (by first | rfl | decide +kernel) ?_
  refine lv_iload_n hx hb dX8_cutsOf_20 rfl (lv_at hl 3 rfl) ?_
  refine lv_iload_n hx hb dX8_cutsOf_21 rfl (lv_at hl 0 rfl) ?_
  refine lv_iconst (v := 1) hx hb dX8_cutsOf_22 (by decide) ?_
  refine lv_isub hx hb dX8_cutsOf_23 ?_
  refine hs_topi 0 (by first | rfl | decide +kernel) ?_
  refine lv_ishr hx hb dX8_cutsOf_24 ?_
  refine hs_topi 0 (by first | rfl | decide +kernel) ?_
  refine lv_iconst (v := 1) hx hb dX8_cutsOf_25 (by decide) ?_
  refine lv_iand hx hb dX8_cutsOf_26 ?_
  refine hs_topi 0 (by first | rfl | decide +kernel) ?_
  refine lv_icmp_eq (tgt := 34) hx hb dX8_cutsOf_27 (by decide) (fun c_2 => ?_) (fun c_2 => absurd c_2 (by decide))
  refine lv_iconst (v := 0) hx hb dX8_cutsOf_34 (by decide) ?_
  refine hs_pi (va_runS (As := [.int 0]) (rest := [.int 0]) ⟨hx, hb, hml, hown, hts⟩ (m_flag0 l D k _ ) (va_cwS 1 hts gX8_cutsOf_X8_flag rfl rfl rfl (by decide +kernel) ⟨Nat.le_of_ble_eq_true rfl, Nat.le_of_ble_eq_true rfl⟩) (hs_preS hK hN (hs_subP (w := []) hP [] rfl) (hD.sub (ws' := []) [] (by decide) rfl)) rfl rfl hl.1 rfl (lv_room (Nat.le_of_ble_eq_true rfl)) dX8_cutsOf_35 ⟨Nat.le_of_ble_eq_true rfl, Nat.le_of_ble_eq_true rfl⟩) hP hD hS hA (fun r_3 u_5 H locs hw_4 hP hS => ?_)
  refine hs_topi 0 (hw_4.trans (by first | rfl | decide +kernel | rfl)) ?_
  refine lv_iadd hx hb dX8_cutsOf_38 ?_
  refine hs_topi 0 (by first | rfl | decide +kernel) ?_
  refine lv_istore_n (lv' := [(2, .int 0), (3, .int 1), (0, .ref mo), (1, .int 0)]) hx hb dX8_cutsOf_39 rfl hl (by decide) rfl (fun ls hl => ?_)
  refine lv_iinc (v := 2) (lv' := [(3, .int 2), (2, .int 0), (0, .ref mo), (1, .int 0)]) hx hb dX8_cutsOf_40 hl (k := 1) rfl (by decide) (by decide) rfl (fun ls hl => ?_)
  refine lv_goto (tgt := 4) hx hb dX8_cutsOf_43 (by decide) ?_
  refine lv_iload_n hx hb dX8_cutsOf_4 rfl (lv_at hl 0 rfl) ?_
  refine lv_aload_n hx hb dX8_cutsOf_5 rfl (lv_at hl 2 rfl) ?_
  refine va_get (D := D) (ci := 7) (v := .ref mo_at) (C := RX8) (T := TX8) (N := 32) hx hb hts hiX8 hown hK hP 0 rfl rfl 1 (by decide) fl13 (fun _ h9 => h9) rfl dX8_cutsOf_6 ?_
  refine lv_iconst (v := 0) hx hb dX8_cutsOf_9 (by decide) ?_
  refine va_iald hx hb hK hP 1 0 rfl rfl (hs_in (by decide)) dX8_cutsOf_10 ?_
  refine hs_topi 2 (by first | rfl | decide +kernel) ?_
  refine lv_icmp_ge (tgt := 46) hx hb dX8_cutsOf_11 (by decide) (fun c_6 => ?_) (fun c_6 => absurd c_6 (by decide))
  refine lv_iload_n hx hb dX8_cutsOf_46 rfl (lv_at hl 1 rfl) ?_
  exact hs_iret hx hb hr hlocks hK hP hD hS () [0, 1] rfl (by decide) dX8_cutsOf_47 (rfl)

set_option maxHeartbeats 4000000 in
set_option maxRecDepth 100000 in
theorem m_cutsOf_1 (l : Launch) (D : va_G) (k : Nat → ClassId) (sz : Nat) (mo : Nat) (mo_st : Nat) (mo_at : Nat) (mo_isKept : Nat) (mo_people : Int32) (mo_halfMany : Int32) (mo_draft : Nat) (mo_dPeople : Int32) (mo_dHalves : Int32) (mo_toldLines : Int32) (mo_highest : Int32) (mo_tape : Nat) (mo_taped : Int32) (mo_pos : Int32) (mo_from : Int32) (mo_sort : Int32) (mo_value : Int32) (mo_fault : Int32) (mo_wrongAt : Int32) (mo_row : Nat) (mo_orderMany : Int32) (mo_firstOrder : Int32) (mo_lightest : Int32) (mo_heaviest : Int32) (mo_before : Nat) (mo_justSum : Int64) (mo_toldSum : Int64) (mo_allWays : Int64) (mo_lanes : Nat) (mo_sizes : Nat) (mo_cells : Nat) (mo_torn : Int32) (mo_had : Nat)  : MI l yX8_cutsOf wsX8_cutsOf ({ frames := 1, cells := 0, slots := 0, locals := 20 }) D k [.ref mo, .int 1] [(mo, .inr (7, [.ref mo_st, .ref mo_at, .ref mo_isKept, .int mo_people, .int mo_halfMany, .ref mo_draft, .int mo_dPeople, .int mo_dHalves, .int mo_toldLines, .int mo_highest, .ref mo_tape, .int mo_taped, .int mo_pos, .int mo_from, .int mo_sort, .int mo_value, .int mo_fault, .int mo_wrongAt, .ref mo_row, .int mo_orderMany, .int mo_firstOrder, .int mo_lightest, .int mo_heaviest, .ref mo_before, .long mo_justSum, .long mo_toldSum, .long mo_allWays, .ref mo_lanes, .ref mo_sizes, .ref mo_cells, .int mo_torn, .ref mo_had])), (mo_at, .inl (k 0, 44, .inl (hst)))] sz (fun (r : Int32) (u : Unit) => r = 1) (fun (u : Unit) => [(mo, .inr (7, [.ref mo_st, .ref mo_at, .ref mo_isKept, .int mo_people, .int mo_halfMany, .ref mo_draft, .int mo_dPeople, .int mo_dHalves, .int mo_toldLines, .int mo_highest, .ref mo_tape, .int mo_taped, .int mo_pos, .int mo_from, .int mo_sort, .int mo_value, .int mo_fault, .int mo_wrongAt, .ref mo_row, .int mo_orderMany, .int mo_firstOrder, .int mo_lightest, .int mo_heaviest, .ref mo_before, .long mo_justSum, .long mo_toldSum, .long mo_allWays, .ref mo_lanes, .ref mo_sizes, .ref mo_cells, .int mo_torn, .ref mo_had])), (mo_at, .inl (k 0, 44, .inl (hst)))]) := by
  refine Met.ofW (cc := cX8_cutsOf) (maxL := 4) (ret := (some .int)) (by decide) rfl ?_
  intro p e s m args below meth c s₁ B hml hv
  obtain ⟨rfl, hsz, hP, hK, hD0, hN⟩ := hv
  have hx := B.exec
  have hb := B.bytes
  have hr := B.returns
  have hlocks := B.notSynchronized
  have hts := atoms_spec (ws := wsX8_cutsOf) B.pre
  have hown : s.vm.findClass RX8 = some m.cls := findClass_of_methodNamed B.named
  have hiX8 : ∀ w ∈ u_ws RX8 TX8 32, w ∈ wsX8_cutsOf := by decide +kernel
  have fl13 := hts (.fieldLink RX8 13 "HalfScalesModel" "at" "[I") (by decide +kernel)
  subst hsz
  have hD := hD0.self (sz := s.heap.size)
  generalize hAe : va_A [(mo, .inr (7, [.ref mo_st, .ref mo_at, .ref mo_isKept, .int mo_people, .int mo_halfMany, .ref mo_draft, .int mo_dPeople, .int mo_dHalves, .int mo_toldLines, .int mo_highest, .ref mo_tape, .int mo_taped, .int mo_pos, .int mo_from, .int mo_sort, .int mo_value, .int mo_fault, .int mo_wrongAt, .ref mo_row, .int mo_orderMany, .int mo_firstOrder, .int mo_lightest, .int mo_heaviest, .ref mo_before, .long mo_justSum, .long mo_toldSum, .long mo_allWays, .ref mo_lanes, .ref mo_sizes, .ref mo_cells, .int mo_torn, .ref mo_had])), (mo_at, .inl (k 0, 44, .inl (hst)))] s.heap.size = A at hD ⊢
  have hA : ∀ q : Nat, s.heap.size ≤ q → A q := fun q h => by rw [← hAe]; exact Or.inr h
  have hS : va_S A s.heap s.heap [] := va_S.rf
  have hl := lv_entry ([.ref mo, .int 1]) (n := 4) (Nat.le_of_ble_eq_true rfl)
  rw [lg_entry_eq]
  generalize (lg_sl ([.ref mo, .int 1]) ++ List.replicate (4 - (lg_sl ([.ref mo, .int 1])).length) Slot.unset).toArray = ls at hl ⊢
  have hl : lv_has ls 4 [(0, .ref mo), (1, .int 1)] := hl
  have hP : va_P D vwCl [(mo, .inr (7, [.ref mo_st, .ref mo_at, .ref mo_isKept, .int mo_people, .int mo_halfMany, .ref mo_draft, .int mo_dPeople, .int mo_dHalves, .int mo_toldLines, .int mo_highest, .ref mo_tape, .int mo_taped, .int mo_pos, .int mo_from, .int mo_sort, .int mo_value, .int mo_fault, .int mo_wrongAt, .ref mo_row, .int mo_orderMany, .int mo_firstOrder, .int mo_lightest, .int mo_heaviest, .ref mo_before, .long mo_justSum, .long mo_toldSum, .long mo_allWays, .ref mo_lanes, .ref mo_sizes, .ref mo_cells, .int mo_torn, .ref mo_had])), (mo_at, .inl (k 0, 44, .inl (hst)))] s.heap := hP
  refine lv_iconst (v := 0) hx hb dX8_cutsOf_0 (by decide) ?_
  refine lv_istore_n (lv' := [(2, .int 0), (0, .ref mo), (1, .int 1)]) hx hb dX8_cutsOf_1 rfl hl (by decide) rfl (fun ls hl => ?_)
  refine lv_iconst (v := 1) hx hb dX8_cutsOf_2 (by decide) ?_
  refine lv_istore_n (lv' := [(3, .int 1), (2, .int 0), (0, .ref mo), (1, .int 1)]) hx hb dX8_cutsOf_3 rfl hl (by decide) rfl (fun ls hl => ?_)
  refine lv_iload_n hx hb dX8_cutsOf_4 rfl (lv_at hl 0 rfl) ?_
  refine lv_aload_n hx hb dX8_cutsOf_5 rfl (lv_at hl 2 rfl) ?_
  refine va_get (D := D) (ci := 7) (v := .ref mo_at) (C := RX8) (T := TX8) (N := 32) hx hb hts hiX8 hown hK hP 0 rfl rfl 1 (by decide) fl13 (fun _ h9 => h9) rfl dX8_cutsOf_6 ?_
  refine lv_iconst (v := 0) hx hb dX8_cutsOf_9 (by decide) ?_
  refine va_iald hx hb hK hP 1 0 rfl rfl (hs_in (by decide)) dX8_cutsOf_10 ?_
  refine hs_topi 2 (by first | rfl | decide +kernel) ?_
  refine lv_icmp_ge (tgt := 46) hx hb dX8_cutsOf_11 (by decide) (fun c_1 => absurd c_1 (by decide)) (fun c_1 => ?_)
  refine lv_iload_n hx hb dX8_cutsOf_14 rfl (lv_at hl 1 rfl) ?_
  refine lv_iload_n hx hb dX8_cutsOf_15 rfl (lv_at hl 3 rfl) ?_
  refine lv_iload_n hx hb dX8_cutsOf_16 rfl (lv_at hl 0 rfl) ?_
  refine lv_ishr hx hb dX8_cutsOf_17 ?_
  refine hs_topi 0 (by first | rfl | decide +kernel) ?_
  refine lv_iconst (v := 1) hx hb dX8_cutsOf_18 (by decide) ?_
  refine lv_iand hx hb dX8_cutsOf_19 ?_
  refine hs_topi 0 (by first | rfl | decide +kernel) ?_
  refine lv_iload_n hx hb dX8_cutsOf_20 rfl (lv_at hl 3 rfl) ?_
  refine lv_iload_n hx hb dX8_cutsOf_21 rfl (lv_at hl 0 rfl) ?_
  refine lv_iconst (v := 1) hx hb dX8_cutsOf_22 (by decide) ?_
  refine lv_isub hx hb dX8_cutsOf_23 ?_
  refine hs_topi 0 (by first | rfl | decide +kernel) ?_
  refine lv_ishr hx hb dX8_cutsOf_24 ?_
  refine hs_topi 1 (by first | rfl | decide +kernel) ?_
  refine lv_iconst (v := 1) hx hb dX8_cutsOf_25 (by decide) ?_
  refine lv_iand hx hb dX8_cutsOf_26 ?_
  refine hs_topi 1 (by first | rfl | decide +kernel) ?_
  refine lv_icmp_eq (tgt := 34) hx hb dX8_cutsOf_27 (by decide) (fun c_2 => absurd c_2 (by decide)) (fun c_2 => ?_)
  refine lv_iconst (v := 1) hx hb dX8_cutsOf_30 (by decide) ?_
  refine lv_goto (tgt := 35) hx hb dX8_cutsOf_31 (by decide) ?_
  refine hs_pi (va_runS (As := [.int 1]) (rest := [.int 0]) ⟨hx, hb, hml, hown, hts⟩ (m_flag1 l D k _ ) (va_cwS 1 hts gX8_cutsOf_X8_flag rfl rfl rfl (by decide +kernel) ⟨Nat.le_of_ble_eq_true rfl, Nat.le_of_ble_eq_true rfl⟩) (hs_preS hK hN (hs_subP (w := []) hP [] rfl) (hD.sub (ws' := []) [] (by decide) rfl)) rfl rfl hl.1 rfl (lv_room (Nat.le_of_ble_eq_true rfl)) dX8_cutsOf_35 ⟨Nat.le_of_ble_eq_true rfl, Nat.le_of_ble_eq_true rfl⟩) hP hD hS hA (fun r_3 u_5 H locs hw_4 hP hS => ?_)
  refine hs_topi 1 (hw_4.trans (by first | rfl | decide +kernel | rfl)) ?_
  refine lv_iadd hx hb dX8_cutsOf_38 ?_
  refine hs_topi 1 (by first | rfl | decide +kernel) ?_
  refine lv_istore_n (lv' := [(2, .int 1), (3, .int 1), (0, .ref mo), (1, .int 1)]) hx hb dX8_cutsOf_39 rfl hl (by decide) rfl (fun ls hl => ?_)
  refine lv_iinc (v := 2) (lv' := [(3, .int 2), (2, .int 1), (0, .ref mo), (1, .int 1)]) hx hb dX8_cutsOf_40 hl (k := 1) rfl (by decide) (by decide) rfl (fun ls hl => ?_)
  refine lv_goto (tgt := 4) hx hb dX8_cutsOf_43 (by decide) ?_
  refine lv_iload_n hx hb dX8_cutsOf_4 rfl (lv_at hl 0 rfl) ?_
  refine lv_aload_n hx hb dX8_cutsOf_5 rfl (lv_at hl 2 rfl) ?_
  refine va_get (D := D) (ci := 7) (v := .ref mo_at) (C := RX8) (T := TX8) (N := 32) hx hb hts hiX8 hown hK hP 0 rfl rfl 1 (by decide) fl13 (fun _ h9 => h9) rfl dX8_cutsOf_6 ?_
  refine lv_iconst (v := 0) hx hb dX8_cutsOf_9 (by decide) ?_
  refine va_iald hx hb hK hP 1 0 rfl rfl (hs_in (by decide)) dX8_cutsOf_10 ?_
  refine hs_topi 2 (by first | rfl | decide +kernel) ?_
  refine lv_icmp_ge (tgt := 46) hx hb dX8_cutsOf_11 (by decide) (fun c_6 => ?_) (fun c_6 => absurd c_6 (by decide))
  refine lv_iload_n hx hb dX8_cutsOf_46 rfl (lv_at hl 1 rfl) ?_
  exact hs_iret hx hb hr hlocks hK hP hD hS () [0, 1] rfl (by decide) dX8_cutsOf_47 (rfl)

set_option maxHeartbeats 4000000 in
set_option maxRecDepth 100000 in
theorem m_cutsOf_2 (l : Launch) (D : va_G) (k : Nat → ClassId) (sz : Nat) (mo : Nat) (mo_st : Nat) (mo_at : Nat) (mo_isKept : Nat) (mo_people : Int32) (mo_halfMany : Int32) (mo_draft : Nat) (mo_dPeople : Int32) (mo_dHalves : Int32) (mo_toldLines : Int32) (mo_highest : Int32) (mo_tape : Nat) (mo_taped : Int32) (mo_pos : Int32) (mo_from : Int32) (mo_sort : Int32) (mo_value : Int32) (mo_fault : Int32) (mo_wrongAt : Int32) (mo_row : Nat) (mo_orderMany : Int32) (mo_firstOrder : Int32) (mo_lightest : Int32) (mo_heaviest : Int32) (mo_before : Nat) (mo_justSum : Int64) (mo_toldSum : Int64) (mo_allWays : Int64) (mo_lanes : Nat) (mo_sizes : Nat) (mo_cells : Nat) (mo_torn : Int32) (mo_had : Nat)  : MI l yX8_cutsOf wsX8_cutsOf ({ frames := 1, cells := 0, slots := 0, locals := 20 }) D k [.ref mo, .int 2] [(mo, .inr (7, [.ref mo_st, .ref mo_at, .ref mo_isKept, .int mo_people, .int mo_halfMany, .ref mo_draft, .int mo_dPeople, .int mo_dHalves, .int mo_toldLines, .int mo_highest, .ref mo_tape, .int mo_taped, .int mo_pos, .int mo_from, .int mo_sort, .int mo_value, .int mo_fault, .int mo_wrongAt, .ref mo_row, .int mo_orderMany, .int mo_firstOrder, .int mo_lightest, .int mo_heaviest, .ref mo_before, .long mo_justSum, .long mo_toldSum, .long mo_allWays, .ref mo_lanes, .ref mo_sizes, .ref mo_cells, .int mo_torn, .ref mo_had])), (mo_at, .inl (k 0, 44, .inl (hst)))] sz (fun (r : Int32) (u : Unit) => r = 1) (fun (u : Unit) => [(mo, .inr (7, [.ref mo_st, .ref mo_at, .ref mo_isKept, .int mo_people, .int mo_halfMany, .ref mo_draft, .int mo_dPeople, .int mo_dHalves, .int mo_toldLines, .int mo_highest, .ref mo_tape, .int mo_taped, .int mo_pos, .int mo_from, .int mo_sort, .int mo_value, .int mo_fault, .int mo_wrongAt, .ref mo_row, .int mo_orderMany, .int mo_firstOrder, .int mo_lightest, .int mo_heaviest, .ref mo_before, .long mo_justSum, .long mo_toldSum, .long mo_allWays, .ref mo_lanes, .ref mo_sizes, .ref mo_cells, .int mo_torn, .ref mo_had])), (mo_at, .inl (k 0, 44, .inl (hst)))]) := by
  refine Met.ofW (cc := cX8_cutsOf) (maxL := 4) (ret := (some .int)) (by decide) rfl ?_
  intro p e s m args below meth c s₁ B hml hv
  obtain ⟨rfl, hsz, hP, hK, hD0, hN⟩ := hv
  have hx := B.exec
  have hb := B.bytes
  have hr := B.returns
  have hlocks := B.notSynchronized
  have hts := atoms_spec (ws := wsX8_cutsOf) B.pre
  have hown : s.vm.findClass RX8 = some m.cls := findClass_of_methodNamed B.named
  have hiX8 : ∀ w ∈ u_ws RX8 TX8 32, w ∈ wsX8_cutsOf := by decide +kernel
  have fl13 := hts (.fieldLink RX8 13 "HalfScalesModel" "at" "[I") (by decide +kernel)
  subst hsz
  have hD := hD0.self (sz := s.heap.size)
  generalize hAe : va_A [(mo, .inr (7, [.ref mo_st, .ref mo_at, .ref mo_isKept, .int mo_people, .int mo_halfMany, .ref mo_draft, .int mo_dPeople, .int mo_dHalves, .int mo_toldLines, .int mo_highest, .ref mo_tape, .int mo_taped, .int mo_pos, .int mo_from, .int mo_sort, .int mo_value, .int mo_fault, .int mo_wrongAt, .ref mo_row, .int mo_orderMany, .int mo_firstOrder, .int mo_lightest, .int mo_heaviest, .ref mo_before, .long mo_justSum, .long mo_toldSum, .long mo_allWays, .ref mo_lanes, .ref mo_sizes, .ref mo_cells, .int mo_torn, .ref mo_had])), (mo_at, .inl (k 0, 44, .inl (hst)))] s.heap.size = A at hD ⊢
  have hA : ∀ q : Nat, s.heap.size ≤ q → A q := fun q h => by rw [← hAe]; exact Or.inr h
  have hS : va_S A s.heap s.heap [] := va_S.rf
  have hl := lv_entry ([.ref mo, .int 2]) (n := 4) (Nat.le_of_ble_eq_true rfl)
  rw [lg_entry_eq]
  generalize (lg_sl ([.ref mo, .int 2]) ++ List.replicate (4 - (lg_sl ([.ref mo, .int 2])).length) Slot.unset).toArray = ls at hl ⊢
  have hl : lv_has ls 4 [(0, .ref mo), (1, .int 2)] := hl
  have hP : va_P D vwCl [(mo, .inr (7, [.ref mo_st, .ref mo_at, .ref mo_isKept, .int mo_people, .int mo_halfMany, .ref mo_draft, .int mo_dPeople, .int mo_dHalves, .int mo_toldLines, .int mo_highest, .ref mo_tape, .int mo_taped, .int mo_pos, .int mo_from, .int mo_sort, .int mo_value, .int mo_fault, .int mo_wrongAt, .ref mo_row, .int mo_orderMany, .int mo_firstOrder, .int mo_lightest, .int mo_heaviest, .ref mo_before, .long mo_justSum, .long mo_toldSum, .long mo_allWays, .ref mo_lanes, .ref mo_sizes, .ref mo_cells, .int mo_torn, .ref mo_had])), (mo_at, .inl (k 0, 44, .inl (hst)))] s.heap := hP
  refine lv_iconst (v := 0) hx hb dX8_cutsOf_0 (by decide) ?_
  refine lv_istore_n (lv' := [(2, .int 0), (0, .ref mo), (1, .int 2)]) hx hb dX8_cutsOf_1 rfl hl (by decide) rfl (fun ls hl => ?_)
  refine lv_iconst (v := 1) hx hb dX8_cutsOf_2 (by decide) ?_
  refine lv_istore_n (lv' := [(3, .int 1), (2, .int 0), (0, .ref mo), (1, .int 2)]) hx hb dX8_cutsOf_3 rfl hl (by decide) rfl (fun ls hl => ?_)
  refine lv_iload_n hx hb dX8_cutsOf_4 rfl (lv_at hl 0 rfl) ?_
  refine lv_aload_n hx hb dX8_cutsOf_5 rfl (lv_at hl 2 rfl) ?_
  refine va_get (D := D) (ci := 7) (v := .ref mo_at) (C := RX8) (T := TX8) (N := 32) hx hb hts hiX8 hown hK hP 0 rfl rfl 1 (by decide) fl13 (fun _ h9 => h9) rfl dX8_cutsOf_6 ?_
  refine lv_iconst (v := 0) hx hb dX8_cutsOf_9 (by decide) ?_
  refine va_iald hx hb hK hP 1 0 rfl rfl (hs_in (by decide)) dX8_cutsOf_10 ?_
  refine hs_topi 2 (by first | rfl | decide +kernel) ?_
  refine lv_icmp_ge (tgt := 46) hx hb dX8_cutsOf_11 (by decide) (fun c_1 => absurd c_1 (by decide)) (fun c_1 => ?_)
  refine lv_iload_n hx hb dX8_cutsOf_14 rfl (lv_at hl 1 rfl) ?_
  refine lv_iload_n hx hb dX8_cutsOf_15 rfl (lv_at hl 3 rfl) ?_
  refine lv_iload_n hx hb dX8_cutsOf_16 rfl (lv_at hl 0 rfl) ?_
  refine lv_ishr hx hb dX8_cutsOf_17 ?_
  refine hs_topi 1 (by first | rfl | decide +kernel) ?_
  refine lv_iconst (v := 1) hx hb dX8_cutsOf_18 (by decide) ?_
  refine lv_iand hx hb dX8_cutsOf_19 ?_
  refine hs_topi 1 (by first | rfl | decide +kernel) ?_
  refine lv_iload_n hx hb dX8_cutsOf_20 rfl (lv_at hl 3 rfl) ?_
  refine lv_iload_n hx hb dX8_cutsOf_21 rfl (lv_at hl 0 rfl) ?_
  refine lv_iconst (v := 1) hx hb dX8_cutsOf_22 (by decide) ?_
  refine lv_isub hx hb dX8_cutsOf_23 ?_
  refine hs_topi 0 (by first | rfl | decide +kernel) ?_
  refine lv_ishr hx hb dX8_cutsOf_24 ?_
  refine hs_topi 2 (by first | rfl | decide +kernel) ?_
  refine lv_iconst (v := 1) hx hb dX8_cutsOf_25 (by decide) ?_
  refine lv_iand hx hb dX8_cutsOf_26 ?_
  refine hs_topi 0 (by first | rfl | decide +kernel) ?_
  refine lv_icmp_eq (tgt := 34) hx hb dX8_cutsOf_27 (by decide) (fun c_2 => absurd c_2 (by decide)) (fun c_2 => ?_)
  refine lv_iconst (v := 1) hx hb dX8_cutsOf_30 (by decide) ?_
  refine lv_goto (tgt := 35) hx hb dX8_cutsOf_31 (by decide) ?_
  refine hs_pi (va_runS (As := [.int 1]) (rest := [.int 0]) ⟨hx, hb, hml, hown, hts⟩ (m_flag1 l D k _ ) (va_cwS 1 hts gX8_cutsOf_X8_flag rfl rfl rfl (by decide +kernel) ⟨Nat.le_of_ble_eq_true rfl, Nat.le_of_ble_eq_true rfl⟩) (hs_preS hK hN (hs_subP (w := []) hP [] rfl) (hD.sub (ws' := []) [] (by decide) rfl)) rfl rfl hl.1 rfl (lv_room (Nat.le_of_ble_eq_true rfl)) dX8_cutsOf_35 ⟨Nat.le_of_ble_eq_true rfl, Nat.le_of_ble_eq_true rfl⟩) hP hD hS hA (fun r_3 u_5 H locs hw_4 hP hS => ?_)
  refine hs_topi 1 (hw_4.trans (by first | rfl | decide +kernel | rfl)) ?_
  refine lv_iadd hx hb dX8_cutsOf_38 ?_
  refine hs_topi 1 (by first | rfl | decide +kernel) ?_
  refine lv_istore_n (lv' := [(2, .int 1), (3, .int 1), (0, .ref mo), (1, .int 2)]) hx hb dX8_cutsOf_39 rfl hl (by decide) rfl (fun ls hl => ?_)
  refine lv_iinc (v := 2) (lv' := [(3, .int 2), (2, .int 1), (0, .ref mo), (1, .int 2)]) hx hb dX8_cutsOf_40 hl (k := 1) rfl (by decide) (by decide) rfl (fun ls hl => ?_)
  refine lv_goto (tgt := 4) hx hb dX8_cutsOf_43 (by decide) ?_
  refine lv_iload_n hx hb dX8_cutsOf_4 rfl (lv_at hl 0 rfl) ?_
  refine lv_aload_n hx hb dX8_cutsOf_5 rfl (lv_at hl 2 rfl) ?_
  refine va_get (D := D) (ci := 7) (v := .ref mo_at) (C := RX8) (T := TX8) (N := 32) hx hb hts hiX8 hown hK hP 0 rfl rfl 1 (by decide) fl13 (fun _ h9 => h9) rfl dX8_cutsOf_6 ?_
  refine lv_iconst (v := 0) hx hb dX8_cutsOf_9 (by decide) ?_
  refine va_iald hx hb hK hP 1 0 rfl rfl (hs_in (by decide)) dX8_cutsOf_10 ?_
  refine hs_topi 2 (by first | rfl | decide +kernel) ?_
  refine lv_icmp_ge (tgt := 46) hx hb dX8_cutsOf_11 (by decide) (fun c_6 => ?_) (fun c_6 => absurd c_6 (by decide))
  refine lv_iload_n hx hb dX8_cutsOf_46 rfl (lv_at hl 1 rfl) ?_
  exact hs_iret hx hb hr hlocks hK hP hD hS () [0, 1] rfl (by decide) dX8_cutsOf_47 (rfl)

set_option maxHeartbeats 4000000 in
set_option maxRecDepth 100000 in
theorem m_cutsOf_3 (l : Launch) (D : va_G) (k : Nat → ClassId) (sz : Nat) (mo : Nat) (mo_st : Nat) (mo_at : Nat) (mo_isKept : Nat) (mo_people : Int32) (mo_halfMany : Int32) (mo_draft : Nat) (mo_dPeople : Int32) (mo_dHalves : Int32) (mo_toldLines : Int32) (mo_highest : Int32) (mo_tape : Nat) (mo_taped : Int32) (mo_pos : Int32) (mo_from : Int32) (mo_sort : Int32) (mo_value : Int32) (mo_fault : Int32) (mo_wrongAt : Int32) (mo_row : Nat) (mo_orderMany : Int32) (mo_firstOrder : Int32) (mo_lightest : Int32) (mo_heaviest : Int32) (mo_before : Nat) (mo_justSum : Int64) (mo_toldSum : Int64) (mo_allWays : Int64) (mo_lanes : Nat) (mo_sizes : Nat) (mo_cells : Nat) (mo_torn : Int32) (mo_had : Nat)  : MI l yX8_cutsOf wsX8_cutsOf ({ frames := 1, cells := 0, slots := 0, locals := 20 }) D k [.ref mo, .int 3] [(mo, .inr (7, [.ref mo_st, .ref mo_at, .ref mo_isKept, .int mo_people, .int mo_halfMany, .ref mo_draft, .int mo_dPeople, .int mo_dHalves, .int mo_toldLines, .int mo_highest, .ref mo_tape, .int mo_taped, .int mo_pos, .int mo_from, .int mo_sort, .int mo_value, .int mo_fault, .int mo_wrongAt, .ref mo_row, .int mo_orderMany, .int mo_firstOrder, .int mo_lightest, .int mo_heaviest, .ref mo_before, .long mo_justSum, .long mo_toldSum, .long mo_allWays, .ref mo_lanes, .ref mo_sizes, .ref mo_cells, .int mo_torn, .ref mo_had])), (mo_at, .inl (k 0, 44, .inl (hst)))] sz (fun (r : Int32) (u : Unit) => r = 0) (fun (u : Unit) => [(mo, .inr (7, [.ref mo_st, .ref mo_at, .ref mo_isKept, .int mo_people, .int mo_halfMany, .ref mo_draft, .int mo_dPeople, .int mo_dHalves, .int mo_toldLines, .int mo_highest, .ref mo_tape, .int mo_taped, .int mo_pos, .int mo_from, .int mo_sort, .int mo_value, .int mo_fault, .int mo_wrongAt, .ref mo_row, .int mo_orderMany, .int mo_firstOrder, .int mo_lightest, .int mo_heaviest, .ref mo_before, .long mo_justSum, .long mo_toldSum, .long mo_allWays, .ref mo_lanes, .ref mo_sizes, .ref mo_cells, .int mo_torn, .ref mo_had])), (mo_at, .inl (k 0, 44, .inl (hst)))]) := by
  refine Met.ofW (cc := cX8_cutsOf) (maxL := 4) (ret := (some .int)) (by decide) rfl ?_
  intro p e s m args below meth c s₁ B hml hv
  obtain ⟨rfl, hsz, hP, hK, hD0, hN⟩ := hv
  have hx := B.exec
  have hb := B.bytes
  have hr := B.returns
  have hlocks := B.notSynchronized
  have hts := atoms_spec (ws := wsX8_cutsOf) B.pre
  have hown : s.vm.findClass RX8 = some m.cls := findClass_of_methodNamed B.named
  have hiX8 : ∀ w ∈ u_ws RX8 TX8 32, w ∈ wsX8_cutsOf := by decide +kernel
  have fl13 := hts (.fieldLink RX8 13 "HalfScalesModel" "at" "[I") (by decide +kernel)
  subst hsz
  have hD := hD0.self (sz := s.heap.size)
  generalize hAe : va_A [(mo, .inr (7, [.ref mo_st, .ref mo_at, .ref mo_isKept, .int mo_people, .int mo_halfMany, .ref mo_draft, .int mo_dPeople, .int mo_dHalves, .int mo_toldLines, .int mo_highest, .ref mo_tape, .int mo_taped, .int mo_pos, .int mo_from, .int mo_sort, .int mo_value, .int mo_fault, .int mo_wrongAt, .ref mo_row, .int mo_orderMany, .int mo_firstOrder, .int mo_lightest, .int mo_heaviest, .ref mo_before, .long mo_justSum, .long mo_toldSum, .long mo_allWays, .ref mo_lanes, .ref mo_sizes, .ref mo_cells, .int mo_torn, .ref mo_had])), (mo_at, .inl (k 0, 44, .inl (hst)))] s.heap.size = A at hD ⊢
  have hA : ∀ q : Nat, s.heap.size ≤ q → A q := fun q h => by rw [← hAe]; exact Or.inr h
  have hS : va_S A s.heap s.heap [] := va_S.rf
  have hl := lv_entry ([.ref mo, .int 3]) (n := 4) (Nat.le_of_ble_eq_true rfl)
  rw [lg_entry_eq]
  generalize (lg_sl ([.ref mo, .int 3]) ++ List.replicate (4 - (lg_sl ([.ref mo, .int 3])).length) Slot.unset).toArray = ls at hl ⊢
  have hl : lv_has ls 4 [(0, .ref mo), (1, .int 3)] := hl
  have hP : va_P D vwCl [(mo, .inr (7, [.ref mo_st, .ref mo_at, .ref mo_isKept, .int mo_people, .int mo_halfMany, .ref mo_draft, .int mo_dPeople, .int mo_dHalves, .int mo_toldLines, .int mo_highest, .ref mo_tape, .int mo_taped, .int mo_pos, .int mo_from, .int mo_sort, .int mo_value, .int mo_fault, .int mo_wrongAt, .ref mo_row, .int mo_orderMany, .int mo_firstOrder, .int mo_lightest, .int mo_heaviest, .ref mo_before, .long mo_justSum, .long mo_toldSum, .long mo_allWays, .ref mo_lanes, .ref mo_sizes, .ref mo_cells, .int mo_torn, .ref mo_had])), (mo_at, .inl (k 0, 44, .inl (hst)))] s.heap := hP
  refine lv_iconst (v := 0) hx hb dX8_cutsOf_0 (by decide) ?_
  refine lv_istore_n (lv' := [(2, .int 0), (0, .ref mo), (1, .int 3)]) hx hb dX8_cutsOf_1 rfl hl (by decide) rfl (fun ls hl => ?_)
  refine lv_iconst (v := 1) hx hb dX8_cutsOf_2 (by decide) ?_
  refine lv_istore_n (lv' := [(3, .int 1), (2, .int 0), (0, .ref mo), (1, .int 3)]) hx hb dX8_cutsOf_3 rfl hl (by decide) rfl (fun ls hl => ?_)
  refine lv_iload_n hx hb dX8_cutsOf_4 rfl (lv_at hl 0 rfl) ?_
  refine lv_aload_n hx hb dX8_cutsOf_5 rfl (lv_at hl 2 rfl) ?_
  refine va_get (D := D) (ci := 7) (v := .ref mo_at) (C := RX8) (T := TX8) (N := 32) hx hb hts hiX8 hown hK hP 0 rfl rfl 1 (by decide) fl13 (fun _ h9 => h9) rfl dX8_cutsOf_6 ?_
  refine lv_iconst (v := 0) hx hb dX8_cutsOf_9 (by decide) ?_
  refine va_iald hx hb hK hP 1 0 rfl rfl (hs_in (by decide)) dX8_cutsOf_10 ?_
  refine hs_topi 2 (by first | rfl | decide +kernel) ?_
  refine lv_icmp_ge (tgt := 46) hx hb dX8_cutsOf_11 (by decide) (fun c_1 => absurd c_1 (by decide)) (fun c_1 => ?_)
  refine lv_iload_n hx hb dX8_cutsOf_14 rfl (lv_at hl 1 rfl) ?_
  refine lv_iload_n hx hb dX8_cutsOf_15 rfl (lv_at hl 3 rfl) ?_
  refine lv_iload_n hx hb dX8_cutsOf_16 rfl (lv_at hl 0 rfl) ?_
  refine lv_ishr hx hb dX8_cutsOf_17 ?_
  refine hs_topi 1 (by first | rfl | decide +kernel) ?_
  refine lv_iconst (v := 1) hx hb dX8_cutsOf_18 (by decide) ?_
  refine lv_iand hx hb dX8_cutsOf_19 ?_
  refine hs_topi 1 (by first | rfl | decide +kernel) ?_
  refine lv_iload_n hx hb dX8_cutsOf_20 rfl (lv_at hl 3 rfl) ?_
  refine lv_iload_n hx hb dX8_cutsOf_21 rfl (lv_at hl 0 rfl) ?_
  refine lv_iconst (v := 1) hx hb dX8_cutsOf_22 (by decide) ?_
  refine lv_isub hx hb dX8_cutsOf_23 ?_
  refine hs_topi 0 (by first | rfl | decide +kernel) ?_
  refine lv_ishr hx hb dX8_cutsOf_24 ?_
  refine hs_topi 3 (by first | rfl | decide +kernel) ?_
  refine lv_iconst (v := 1) hx hb dX8_cutsOf_25 (by decide) ?_
  refine lv_iand hx hb dX8_cutsOf_26 ?_
  refine hs_topi 1 (by first | rfl | decide +kernel) ?_
  refine lv_icmp_eq (tgt := 34) hx hb dX8_cutsOf_27 (by decide) (fun c_2 => ?_) (fun c_2 => absurd c_2 (by decide))
  refine lv_iconst (v := 0) hx hb dX8_cutsOf_34 (by decide) ?_
  refine hs_pi (va_runS (As := [.int 0]) (rest := [.int 0]) ⟨hx, hb, hml, hown, hts⟩ (m_flag0 l D k _ ) (va_cwS 1 hts gX8_cutsOf_X8_flag rfl rfl rfl (by decide +kernel) ⟨Nat.le_of_ble_eq_true rfl, Nat.le_of_ble_eq_true rfl⟩) (hs_preS hK hN (hs_subP (w := []) hP [] rfl) (hD.sub (ws' := []) [] (by decide) rfl)) rfl rfl hl.1 rfl (lv_room (Nat.le_of_ble_eq_true rfl)) dX8_cutsOf_35 ⟨Nat.le_of_ble_eq_true rfl, Nat.le_of_ble_eq_true rfl⟩) hP hD hS hA (fun r_3 u_5 H locs hw_4 hP hS => ?_)
  refine hs_topi 0 (hw_4.trans (by first | rfl | decide +kernel | rfl)) ?_
  refine lv_iadd hx hb dX8_cutsOf_38 ?_
  refine hs_topi 0 (by first | rfl | decide +kernel) ?_
  refine lv_istore_n (lv' := [(2, .int 0), (3, .int 1), (0, .ref mo), (1, .int 3)]) hx hb dX8_cutsOf_39 rfl hl (by decide) rfl (fun ls hl => ?_)
  refine lv_iinc (v := 2) (lv' := [(3, .int 2), (2, .int 0), (0, .ref mo), (1, .int 3)]) hx hb dX8_cutsOf_40 hl (k := 1) rfl (by decide) (by decide) rfl (fun ls hl => ?_)
  refine lv_goto (tgt := 4) hx hb dX8_cutsOf_43 (by decide) ?_
  refine lv_iload_n hx hb dX8_cutsOf_4 rfl (lv_at hl 0 rfl) ?_
  refine lv_aload_n hx hb dX8_cutsOf_5 rfl (lv_at hl 2 rfl) ?_
  refine va_get (D := D) (ci := 7) (v := .ref mo_at) (C := RX8) (T := TX8) (N := 32) hx hb hts hiX8 hown hK hP 0 rfl rfl 1 (by decide) fl13 (fun _ h9 => h9) rfl dX8_cutsOf_6 ?_
  refine lv_iconst (v := 0) hx hb dX8_cutsOf_9 (by decide) ?_
  refine va_iald hx hb hK hP 1 0 rfl rfl (hs_in (by decide)) dX8_cutsOf_10 ?_
  refine hs_topi 2 (by first | rfl | decide +kernel) ?_
  refine lv_icmp_ge (tgt := 46) hx hb dX8_cutsOf_11 (by decide) (fun c_6 => ?_) (fun c_6 => absurd c_6 (by decide))
  refine lv_iload_n hx hb dX8_cutsOf_46 rfl (lv_at hl 1 rfl) ?_
  exact hs_iret hx hb hr hlocks hK hP hD hS () [0, 1] rfl (by decide) dX8_cutsOf_47 (rfl)

set_option maxHeartbeats 4000000 in
set_option maxRecDepth 100000 in
theorem m_common10 (l : Launch) (D : va_G) (k : Nat → ClassId) (sz : Nat)   : ML l yX8_common wsX8_common ({ frames := 0, cells := 0, slots := 0, locals := 0 }) D k [.long 1, .long 0] [] sz (fun (r : Int64) (u : Unit) => r = 1) (fun (u : Unit) => []) := by
  refine Met.ofW (cc := cX8_common) (maxL := 10) (ret := (some .long)) (by decide) rfl ?_
  intro p e s m args below meth c s₁ B hml hv
  obtain ⟨rfl, hsz, hP, hK, hD0, hN⟩ := hv
  have hx := B.exec
  have hb := B.bytes
  have hr := B.returns
  have hlocks := B.notSynchronized
  have hts := atoms_spec (ws := wsX8_common) B.pre
  have hown : s.vm.findClass RX8 = some m.cls := findClass_of_methodNamed B.named
  subst hsz
  have hD := hD0.self (sz := s.heap.size)
  generalize hAe : va_A [] s.heap.size = A at hD ⊢
  have hA : ∀ q : Nat, s.heap.size ≤ q → A q := fun q h => by rw [← hAe]; exact Or.inr h
  have hS : va_S A s.heap s.heap [] := va_S.rf
  have hl := lv_entry ([.long 1, .long 0]) (n := 10) (Nat.le_of_ble_eq_true rfl)
  rw [lg_entry_eq]
  generalize (lg_sl ([.long 1, .long 0]) ++ List.replicate (10 - (lg_sl ([.long 1, .long 0])).length) Slot.unset).toArray = ls at hl ⊢
  have hl : lv_has ls 10 [(0, .long 1), (2, .long 0)] := hl
  have hP : va_P D vwCl [] s.heap := hP
  refine lv_lload_n hx hb dX8_common_0 rfl (lv_at hl 0 rfl) ?_
  refine lv_lstore (lv' := [(4, .long 1), (0, .long 1), (2, .long 0)]) hx hb dX8_common_1 hl (by decide) rfl (fun ls hl => ?_)
  refine lv_lload_n hx hb dX8_common_3 rfl (lv_at hl 2 rfl) ?_
  refine lv_lstore (lv' := [(6, .long 0), (4, .long 1), (0, .long 1), (2, .long 0)]) hx hb dX8_common_4 hl (by decide) rfl (fun ls hl => ?_)
  refine lv_lload hx hb dX8_common_6 (lv_at hl 0 rfl) ?_
  refine lv_lconst (v := 0) hx hb dX8_common_8 (by decide) ?_
  refine W.lcmp hx hb dX8_common_9 ?_
  refine hs_topi 0 (by first | rfl | decide +kernel) ?_
  refine lv_if_eq (tgt := 31) hx hb dX8_common_10 (by decide) (fun c_1 => ?_) (fun c_1 => absurd c_1 (by decide))
  refine lv_lload hx hb dX8_common_31 (lv_at hl 1 rfl) ?_
  exact hs_lret hx hb hr hlocks hK hP hD hS () [] rfl (by decide) dX8_common_33 (rfl)
