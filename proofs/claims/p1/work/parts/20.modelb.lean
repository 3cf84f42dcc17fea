set_option maxHeartbeats 4000000 in
set_option maxRecDepth 100000 in
theorem m_told_0 (l : Launch) (D : va_G) (k : Nat → ClassId) (sz : Nat)   : ML l yX8_told wsX8_told ({ frames := 1, cells := 0, slots := 0, locals := 29 }) D k [.long 0, .long 1, .int 0] [] sz (fun (r : Int64) (u : Unit) => r = 0) (fun (u : Unit) => []) := by
  refine Met.ofW (cc := cX8_told) (maxL := 7) (ret := (some .long)) (by decide) rfl ?_
  intro p e s m args below meth c s₁ B hml hv
  obtain ⟨rfl, hsz, hP, hK, hD0, hN⟩ := hv
  have hx := B.exec
  have hb := B.bytes
  have hr := B.returns
  have hlocks := B.notSynchronized
  have hts := atoms_spec (ws := wsX8_told) B.pre
  have hown : s.vm.findClass RX8 = some m.cls := findClass_of_methodNamed B.named
  subst hsz
  have hD := hD0.self (sz := s.heap.size)
  generalize hAe : va_A [] s.heap.size = A at hD ⊢
  have hA : ∀ q : Nat, s.heap.size ≤ q → A q := fun q h => by rw [← hAe]; exact Or.inr h
  have hS : va_S A s.heap s.heap [] := va_S.rf
  have hl := lv_entry ([.long 0, .long 1, .int 0]) (n := 7) (Nat.le_of_ble_eq_true rfl)
  rw [lg_entry_eq]
  generalize (lg_sl ([.long 0, .long 1, .int 0]) ++ List.replicate (7 - (lg_sl ([.long 0, .long 1, .int 0])).length) Slot.unset).toArray = ls at hl ⊢
  have hl : lv_has ls 7 [(0, .long 0), (2, .long 1), (4, .int 0)] := hl
  have hP : va_P D vwCl [] s.heap := hP
  refine lv_lload_n hx hb dX8_told_0 rfl (lv_at hl 1 rfl) ?_
  refine lv_lload_n hx hb dX8_told_1 rfl (lv_at hl 0 rfl) ?_
  refine hs_pl (va_runS (As := [.long 1, .long 0]) (rest := []) ⟨hx, hb, hml, hown, hts⟩ (m_common10 l D k _ ) (va_cwS 2 hts gX8_told_X8_common rfl rfl rfl (by decide +kernel) ⟨Nat.le_of_ble_eq_true rfl, Nat.le_of_ble_eq_true rfl⟩) (hs_preS hK hN (hs_subP (w := []) hP [] rfl) (hD.sub (ws' := []) [] (by decide) rfl)) rfl rfl hl.1 rfl (lv_room (Nat.le_of_ble_eq_true rfl)) dX8_told_2 ⟨Nat.le_of_ble_eq_true rfl, Nat.le_of_ble_eq_true rfl⟩) hP hD hS hA (fun r_1 u_3 H locs hw_2 hP hS => ?_)
  refine hs_topl 1 (hw_2.trans (by first | rfl | decide +kernel | rfl)) ?_
  refine lv_lstore (lv' := [(5, .long 1), (0, .long 0), (2, .long 1), (4, .int 0)]) hx hb dX8_told_5 hl (by decide) rfl (fun ls hl => ?_)
  refine lv_iload hx hb dX8_told_7 (lv_at hl 3 rfl) ?_
  refine lv_if_ne (tgt := 19) hx hb dX8_told_9 (by decide) (fun c_4 => absurd c_4 (by decide)) (fun c_4 => ?_)
  refine lv_lload_n hx hb dX8_told_12 rfl (lv_at hl 1 rfl) ?_
  refine lv_lload hx hb dX8_told_13 (lv_at hl 0 rfl) ?_
  refine lv_ldiv hx hb dX8_told_15 (by decide) ?_
  refine hs_topl 0 (by first | rfl | decide +kernel) ?_
  refine lv_goto (tgt := 23) hx hb dX8_told_16 (by decide) ?_
  exact hs_lret hx hb hr hlocks hK hP hD hS () [] rfl (by decide) dX8_told_23 (rfl)

set_option maxHeartbeats 4000000 in
set_option maxRecDepth 100000 in
theorem m_told_1 (l : Launch) (D : va_G) (k : Nat → ClassId) (sz : Nat)   : ML l yX8_told wsX8_told ({ frames := 1, cells := 0, slots := 0, locals := 29 }) D k [.long 0, .long 1, .int 1] [] sz (fun (r : Int64) (u : Unit) => r = 1) (fun (u : Unit) => []) := by
  refine Met.ofW (cc := cX8_told) (maxL := 7) (ret := (some .long)) (by decide) rfl ?_
  intro p e s m args below meth c s₁ B hml hv
  obtain ⟨rfl, hsz, hP, hK, hD0, hN⟩ := hv
  have hx := B.exec
  have hb := B.bytes
  have hr := B.returns
  have hlocks := B.notSynchronized
  have hts := atoms_spec (ws := wsX8_told) B.pre
  have hown : s.vm.findClass RX8 = some m.cls := findClass_of_methodNamed B.named
  subst hsz
  have hD := hD0.self (sz := s.heap.size)
  generalize hAe : va_A [] s.heap.size = A at hD ⊢
  have hA : ∀ q : Nat, s.heap.size ≤ q → A q := fun q h => by rw [← hAe]; exact Or.inr h
  have hS : va_S A s.heap s.heap [] := va_S.rf
  have hl := lv_entry ([.long 0, .long 1, .int 1]) (n := 7) (Nat.le_of_ble_eq_true rfl)
  rw [lg_entry_eq]
  generalize (lg_sl ([.long 0, .long 1, .int 1]) ++ List.replicate (7 - (lg_sl ([.long 0, .long 1, .int 1])).length) Slot.unset).toArray = ls at hl ⊢
  have hl : lv_has ls 7 [(0, .long 0), (2, .long 1), (4, .int 1)] := hl
  have hP : va_P D vwCl [] s.heap := hP
  refine lv_lload_n hx hb dX8_told_0 rfl (lv_at hl 1 rfl) ?_
  refine lv_lload_n hx hb dX8_told_1 rfl (lv_at hl 0 rfl) ?_
  refine hs_pl (va_runS (As := [.long 1, .long 0]) (rest := []) ⟨hx, hb, hml, hown, hts⟩ (m_common10 l D k _ ) (va_cwS 2 hts gX8_told_X8_common rfl rfl rfl (by decide +kernel) ⟨Nat.le_of_ble_eq_true rfl, Nat.le_of_ble_eq_true rfl⟩) (hs_preS hK hN (hs_subP (w := []) hP [] rfl) (hD.sub (ws' := []) [] (by decide) rfl)) rfl rfl hl.1 rfl (lv_room (Nat.le_of_ble_eq_true rfl)) dX8_told_2 ⟨Nat.le_of_ble_eq_true rfl, Nat.le_of_ble_eq_true rfl⟩) hP hD hS hA (fun r_1 u_3 H locs hw_2 hP hS => ?_)
  refine hs_topl 1 (hw_2.trans (by first | rfl | decide +kernel | rfl)) ?_
  refine lv_lstore (lv' := [(5, .long 1), (0, .long 0), (2, .long 1), (4, .int 1)]) hx hb dX8_told_5 hl (by decide) rfl (fun ls hl => ?_)
  refine lv_iload hx hb dX8_told_7 (lv_at hl 3 rfl) ?_
  refine lv_if_ne (tgt := 19) hx hb dX8_told_9 (by decide) (fun c_4 => ?_) (fun c_4 => absurd c_4 (by decide))
  refine lv_lload_n hx hb dX8_told_19 rfl (lv_at hl 2 rfl) ?_
  refine lv_lload hx hb dX8_told_20 (lv_at hl 0 rfl) ?_
  refine lv_ldiv hx hb dX8_told_22 (by decide) ?_
  refine hs_topl 1 (by first | rfl | decide +kernel) ?_
  exact hs_lret hx hb hr hlocks hK hP hD hS () [] rfl (by decide) dX8_told_23 (rfl)

set_option maxHeartbeats 4000000 in
set_option maxRecDepth 100000 in
theorem m_isSheet0 (l : Launch) (D : va_G) (k : Nat → ClassId) (sz : Nat) (i : Int32)  : MI l yX8_isSheet wsX8_isSheet ({ frames := 1, cells := 0, slots := 0, locals := 25 }) D k [.int i, .int 0] [] sz (fun (r : Int32) (u : Unit) => r = hsb (hsin i 0 3)) (fun (u : Unit) => []) := by
  refine Met.ofW (cc := cX8_isSheet) (maxL := 2) (ret := (some .boolean)) (by decide) rfl ?_
  intro p e s m args below meth c s₁ B hml hv
  obtain ⟨rfl, hsz, hP, hK, hD0, hN⟩ := hv
  have hx := B.exec
  have hb := B.bytes
  have hr := B.returns
  have hlocks := B.notSynchronized
  have hts := atoms_spec (ws := wsX8_isSheet) B.pre
  have hown : s.vm.findClass RX8 = some m.cls := findClass_of_methodNamed B.named
  have kl195 := hts (.constantLong RX8 195 (3)) (by decide +kernel)
  have kl197 := hts (.constantLong RX8 197 (2)) (by decide +kernel)
  subst hsz
  have hD := hD0.self (sz := s.heap.size)
  generalize hAe : va_A [] s.heap.size = A at hD ⊢
  have hA : ∀ q : Nat, s.heap.size ≤ q → A q := fun q h => by rw [← hAe]; exact Or.inr h
  have hS : va_S A s.heap s.heap [] := va_S.rf
  have hl := lv_entry ([.int i, .int 0]) (n := 2) (Nat.le_of_ble_eq_true rfl)
  rw [lg_entry_eq]
  generalize (lg_sl ([.int i, .int 0]) ++ List.replicate (2 - (lg_sl ([.int i, .int 0])).length) Slot.unset).toArray = ls at hl ⊢
  have hl : lv_has ls 2 [(0, .int i), (1, .int 0)] := hl
  have hP : va_P D vwCl [] s.heap := hP
  refine lv_iload_n hx hb dX8_isSheet_0 rfl (lv_at hl 0 rfl) ?_
  refine lv_i2l hx hb dX8_isSheet_1 rfl ?_
  refine lv_lconst (v := 0) hx hb dX8_isSheet_2 (by decide) ?_
  refine lv_ldc2 hx hb hown kl195 dX8_isSheet_3 ?_
  refine hs_pi (va_runS (As := [.long (((i) : Int32).toInt64), .long 0, .long 3]) (rest := []) ⟨hx, hb, hml, hown, hts⟩ (m_in l D k _ i 0 3) (va_cwS 3 hts gX8_isSheet_X8_in rfl rfl rfl (by decide +kernel) ⟨Nat.le_of_ble_eq_true rfl, Nat.le_of_ble_eq_true rfl⟩) (hs_preS hK hN (hs_subP (w := []) hP [] rfl) (hD.sub (ws' := []) [] (by decide) rfl)) rfl rfl hl.1 rfl (lv_room (Nat.le_of_ble_eq_true rfl)) dX8_isSheet_6 ⟨Nat.le_of_ble_eq_true rfl, Nat.le_of_ble_eq_true rfl⟩) hP hD hS hA (fun r_1 u_3 H locs hw_2 hP hS => ?_)
  refine hs_topi (hsb (hsin i 0 3)) hw_2 ?_
  refine lv_if_eq (tgt := 28) hx hb dX8_isSheet_9 (by decide) (fun c_4 => ?_) (fun c_4 => ?_)
  · refine lv_iconst (v := 0) hx hb dX8_isSheet_28 (by decide) ?_
    exact hs_zret hx hb hr hlocks hK hP hD hS () [] rfl (by decide) dX8_isSheet_29 rfl (by simp only [hsb_0, hsb_1] at c_4; simp [hsb, c_4])
  · refine lv_iload_n hx hb dX8_isSheet_12 rfl (lv_at hl 1 rfl) ?_
    refine lv_i2l (v := 0) hx hb dX8_isSheet_13 (by decide +kernel) ?_
    refine lv_lconst (v := 0) hx hb dX8_isSheet_14 (by decide) ?_
    refine lv_ldc2 hx hb hown kl197 dX8_isSheet_15 ?_
    refine hs_pi (va_runS (As := [.long 0, .long 0, .long 2]) (rest := []) ⟨hx, hb, hml, hown, hts⟩ (m_in l D k _ 0 0 2) (va_cwS 3 hts gX8_isSheet_X8_in rfl rfl rfl (by decide +kernel) ⟨Nat.le_of_ble_eq_true rfl, Nat.le_of_ble_eq_true rfl⟩) (hs_preS hK hN (hs_subP (w := []) hP [] rfl) (hD.sub (ws' := []) [] (by decide) rfl)) rfl rfl hl.1 rfl (lv_room (Nat.le_of_ble_eq_true rfl)) dX8_isSheet_18 ⟨Nat.le_of_ble_eq_true rfl, Nat.le_of_ble_eq_true rfl⟩) hP hD hS hA (fun r_5 u_7 H locs hw_6 hP hS => ?_)
    refine hs_topi 1 (hw_6.trans (by first | rfl | decide +kernel | (rw [hsin_no]; rfl))) ?_
    refine lv_if_eq (tgt := 28) hx hb dX8_isSheet_21 (by decide) (fun c_8 => absurd c_8 (by decide)) (fun c_8 => ?_)
    refine lv_iconst (v := 1) hx hb dX8_isSheet_24 (by decide) ?_
    refine lv_goto (tgt := 29) hx hb dX8_isSheet_25 (by decide) ?_
    exact hs_zret hx hb hr hlocks hK hP hD hS () [] rfl (by decide) dX8_isSheet_29 rfl (by simp only [hsb_0, hsb_1] at c_4 c_8; simp [hsb, c_4, c_8])
