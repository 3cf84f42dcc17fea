set_option maxHeartbeats 4000000 in
set_option maxRecDepth 100000 in
/-- within(v, low, high) -/
theorem c_within (l : Launch) (D : va_G) (k : Nat → ClassId) (sz : Nat) (v : Int32) (lo : Int32) (hi : Int32)  : MI l yX7_within wsX7_within ({ frames := 0, cells := 0, slots := 0, locals := 0 }) D k [.int v, .int lo, .int hi] [] sz (fun (r : Int32) (u : Unit) => r = hsb (hsin v lo hi)) (fun (u : Unit) => []) := by
  refine Met.ofW (cc := cX7_within) (maxL := 3) (ret := (some .boolean)) (by decide) rfl ?_
  intro p e s m args below meth c s₁ B hml hv
  obtain ⟨rfl, hsz, hP, hK, hD0, hN⟩ := hv
  have hx := B.exec
  have hb := B.bytes
  have hr := B.returns
  have hlocks := B.notSynchronized
  have hts := atoms_spec (ws := wsX7_within) B.pre
  have hown : s.vm.findClass RX7 = some m.cls := findClass_of_methodNamed B.named
  subst hsz
  have hD := hD0.self (sz := s.heap.size)
  generalize hAe : va_A [] s.heap.size = A at hD ⊢
  have hA : ∀ q : Nat, s.heap.size ≤ q → A q := fun q h => by rw [← hAe]; exact Or.inr h
  have hS : va_S A s.heap s.heap [] := va_S.rf
  have hl := lv_entry ([.int v, .int lo, .int hi]) (n := 3) (Nat.le_of_ble_eq_true rfl)
  rw [lg_entry_eq]
  generalize (lg_sl ([.int v, .int lo, .int hi]) ++ List.replicate (3 - (lg_sl ([.int v, .int lo, .int hi])).length) Slot.unset).toArray = ls at hl ⊢
  have hl : lv_has ls 3 [(0, .int v), (1, .int lo), (2, .int hi)] := hl
  have hP : va_P D vwCl [] s.heap := hP
  refine lv_iload_n hx hb dX7_within_0 rfl (lv_at hl 0 rfl) ?_
  refine lv_iload_n hx hb dX7_within_1 rfl (lv_at hl 1 rfl) ?_
  refine lv_icmp_lt (tgt := 14) hx hb dX7_within_2 (by decide) (fun c_1 => ?_) (fun c_1 => ?_)
  · refine lv_iconst (v := 0) hx hb dX7_within_14 (by decide) ?_
    exact hs_zret hx hb hr hlocks hK hP hD hS () [] rfl (by decide) dX7_within_15 rfl (hsin_f1 c_1)
  · refine lv_iload_n hx hb dX7_within_5 rfl (lv_at hl 0 rfl) ?_
    refine lv_iload_n hx hb dX7_within_6 rfl (lv_at hl 2 rfl) ?_
    refine lv_icmp_gt (tgt := 14) hx hb dX7_within_7 (by decide) (fun c_2 => ?_) (fun c_2 => ?_)
    · refine lv_iconst (v := 0) hx hb dX7_within_14 (by decide) ?_
      exact hs_zret hx hb hr hlocks hK hP hD hS () [] rfl (by decide) dX7_within_15 rfl (hsin_f2 c_2)
    · refine lv_iconst (v := 1) hx hb dX7_within_10 (by decide) ?_
      refine lv_goto (tgt := 15) hx hb dX7_within_11 (by decide) ?_
      exact hs_zret hx hb hr hlocks hK hP hD hS () [] rfl (by decide) dX7_within_15 rfl (hsin_t c_1 c_2)

set_option maxHeartbeats 4000000 in
set_option maxRecDepth 100000 in
theorem c_halfUp (l : Launch) (D : va_G) (k : Nat → ClassId) (sz : Nat) (v : Int32)  : MI l yX7_halfUp wsX7_halfUp ({ frames := 0, cells := 0, slots := 0, locals := 0 }) D k [.int v] [] sz (fun (r : Int32) (u : Unit) => r = (v + 1) / 2) (fun (u : Unit) => []) := by
  refine Met.ofW (cc := cX7_halfUp) (maxL := 1) (ret := (some .int)) (by decide) rfl ?_
  intro p e s m args below meth c s₁ B hml hv
  obtain ⟨rfl, hsz, hP, hK, hD0, hN⟩ := hv
  have hx := B.exec
  have hb := B.bytes
  have hr := B.returns
  have hlocks := B.notSynchronized
  have hts := atoms_spec (ws := wsX7_halfUp) B.pre
  have hown : s.vm.findClass RX7 = some m.cls := findClass_of_methodNamed B.named
  subst hsz
  have hD := hD0.self (sz := s.heap.size)
  generalize hAe : va_A [] s.heap.size = A at hD ⊢
  have hA : ∀ q : Nat, s.heap.size ≤ q → A q := fun q h => by rw [← hAe]; exact Or.inr h
  have hS : va_S A s.heap s.heap [] := va_S.rf
  have hl := lv_entry ([.int v]) (n := 1) (Nat.le_of_ble_eq_true rfl)
  rw [lg_entry_eq]
  generalize (lg_sl ([.int v]) ++ List.replicate (1 - (lg_sl ([.int v])).length) Slot.unset).toArray = ls at hl ⊢
  have hl : lv_has ls 1 [(0, .int v)] := hl
  have hP : va_P D vwCl [] s.heap := hP
  refine lv_iload_n hx hb dX7_halfUp_0 rfl (lv_at hl 0 rfl) ?_
  refine lv_iconst (v := 1) hx hb dX7_halfUp_1 (by decide) ?_
  refine lv_iadd hx hb dX7_halfUp_2 ?_
  refine lv_iconst (v := 2) hx hb dX7_halfUp_3 (by decide) ?_
  refine lv_idiv hx hb dX7_halfUp_4 (by decide) ?_
  exact hs_iret hx hb hr hlocks hK hP hD hS () [] rfl (by decide) dX7_halfUp_5 (rfl)

set_option maxHeartbeats 4000000 in
set_option maxRecDepth 100000 in
theorem c_isSheet (l : Launch) (D : va_G) (k : Nat → ClassId) (sz : Nat) (v : Int32)  : MI l yX7_isSheet wsX7_isSheet ({ frames := 1, cells := 0, slots := 0, locals := 22 }) D k [.int v] [] sz (fun (r : Int32) (u : Unit) => r = hsb (hsin v 0 3)) (fun (u : Unit) => []) := by
  refine Met.ofW (cc := cX7_isSheet) (maxL := 1) (ret := (some .boolean)) (by decide) rfl ?_
  intro p e s m args below meth c s₁ B hml hv
  obtain ⟨rfl, hsz, hP, hK, hD0, hN⟩ := hv
  have hx := B.exec
  have hb := B.bytes
  have hr := B.returns
  have hlocks := B.notSynchronized
  have hts := atoms_spec (ws := wsX7_isSheet) B.pre
  have hown : s.vm.findClass RX7 = some m.cls := findClass_of_methodNamed B.named
  subst hsz
  have hD := hD0.self (sz := s.heap.size)
  generalize hAe : va_A [] s.heap.size = A at hD ⊢
  have hA : ∀ q : Nat, s.heap.size ≤ q → A q := fun q h => by rw [← hAe]; exact Or.inr h
  have hS : va_S A s.heap s.heap [] := va_S.rf
  have hl := lv_entry ([.int v]) (n := 1) (Nat.le_of_ble_eq_true rfl)
  rw [lg_entry_eq]
  generalize (lg_sl ([.int v]) ++ List.replicate (1 - (lg_sl ([.int v])).length) Slot.unset).toArray = ls at hl ⊢
  have hl : lv_has ls 1 [(0, .int v)] := hl
  have hP : va_P D vwCl [] s.heap := hP
  refine lv_iload_n hx hb dX7_isSheet_0 rfl (lv_at hl 0 rfl) ?_
  refine lv_iconst (v := 0) hx hb dX7_isSheet_1 (by decide) ?_
  refine lv_iconst (v := 3) hx hb dX7_isSheet_2 (by decide) ?_
  refine hs_pi (va_runS (As := [.int v, .int 0, .int 3]) (rest := []) ⟨hx, hb, hml, hown, hts⟩ (c_within l D k _ v 0 3) (va_cwS 3 hts gX7_isSheet_X7_within rfl rfl rfl (by decide +kernel) ⟨Nat.le_of_ble_eq_true rfl, Nat.le_of_ble_eq_true rfl⟩) (hs_preS hK hN (hs_subP (w := []) hP [] rfl) (hD.sub (ws' := []) [] (by decide) rfl)) rfl rfl hl.1 rfl (lv_room (Nat.le_of_ble_eq_true rfl)) dX7_isSheet_3 ⟨Nat.le_of_ble_eq_true rfl, Nat.le_of_ble_eq_true rfl⟩) hP hD hS hA (fun r_1 u_3 H locs hw_2 hP hS => ?_)
  refine hs_topi (hsb (hsin v 0 3)) hw_2 ?_
  exact hs_zret hx hb hr hlocks hK hP hD hS () [] rfl (by decide) dX7_isSheet_6 (hsb_n _) (rfl)

set_option maxHeartbeats 4000000 in
set_option maxRecDepth 100000 in
theorem c_isCell0 (l : Launch) (D : va_G) (k : Nat → ClassId) (sz : Nat) (t : Nat) (t_weights : Nat) (t_kindOf : Nat) (t_light : Nat) (t_heavy : Nat) (t_seenBy : Nat) (t_seenCut : Nat) (t_seenFound : Nat) (i : Int32)  : MI l yX6_isCell wsX6_isCell ({ frames := 1, cells := 0, slots := 0, locals := 22 }) D k [.ref t, .int i] [(t, .inr (5, [.ref t_weights, .ref t_kindOf, .ref t_light, .ref t_heavy, .ref t_seenBy, .ref t_seenCut, .ref t_seenFound, .int 2, .int 0, .int 0, .int 0, .int 0, .int 2, .int 0, .int 0]))] sz (fun (r : Int32) (u : Unit) => r = hsb (hsin i 0 1)) (fun (u : Unit) => [(t, .inr (5, [.ref t_weights, .ref t_kindOf, .ref t_light, .ref t_heavy, .ref t_seenBy, .ref t_seenCut, .ref t_seenFound, .int 2, .int 0, .int 0, .int 0, .int 0, .int 2, .int 0, .int 0]))]) := by
  refine Met.ofW (cc := cX6_isCell) (maxL := 2) (ret := (some .boolean)) (by decide) rfl ?_
  intro p e s m args below meth c s₁ B hml hv
  obtain ⟨rfl, hsz, hP, hK, hD0, hN⟩ := hv
  have hx := B.exec
  have hb := B.bytes
  have hr := B.returns
  have hlocks := B.notSynchronized
  have hts := atoms_spec (ws := wsX6_isCell) B.pre
  have hown : s.vm.findClass RX6 = some m.cls := findClass_of_methodNamed B.named
  have hiX6 : ∀ w ∈ u_ws RX6 TX6 15, w ∈ wsX6_isCell := by decide +kernel
  have fl36 := hts (.fieldLink RX6 36 "HalfScales$Thing" "cellCount" "I") (by decide +kernel)
  have iniX7 := hts (.initialized RX7) (by decide +kernel)
  have st_X7_within := hts (.static yX7_within) (by decide +kernel)
  subst hsz
  have hD := hD0.self (sz := s.heap.size)
  generalize hAe : va_A [(t, .inr (5, [.ref t_weights, .ref t_kindOf, .ref t_light, .ref t_heavy, .ref t_seenBy, .ref t_seenCut, .ref t_seenFound, .int 2, .int 0, .int 0, .int 0, .int 0, .int 2, .int 0, .int 0]))] s.heap.size = A at hD ⊢
  have hA : ∀ q : Nat, s.heap.size ≤ q → A q := fun q h => by rw [← hAe]; exact Or.inr h
  have hS : va_S A s.heap s.heap [] := va_S.rf
  have hl := lv_entry ([.ref t, .int i]) (n := 2) (Nat.le_of_ble_eq_true rfl)
  rw [lg_entry_eq]
  generalize (lg_sl ([.ref t, .int i]) ++ List.replicate (2 - (lg_sl ([.ref t, .int i])).length) Slot.unset).toArray = ls at hl ⊢
  have hl : lv_has ls 2 [(0, .ref t), (1, .int i)] := hl
  have hP : va_P D vwCl [(t, .inr (5, [.ref t_weights, .ref t_kindOf, .ref t_light, .ref t_heavy, .ref t_seenBy, .ref t_seenCut, .ref t_seenFound, .int 2, .int 0, .int 0, .int 0, .int 0, .int 2, .int 0, .int 0]))] s.heap := hP
  refine lv_iload_n hx hb dX6_isCell_0 rfl (lv_at hl 1 rfl) ?_
  refine lv_iconst (v := 0) hx hb dX6_isCell_1 (by decide) ?_
  refine lv_aload_n hx hb dX6_isCell_2 rfl (lv_at hl 0 rfl) ?_
  refine va_get (D := D) (ci := 5) (v := .int 2) (C := RX6) (T := TX6) (N := 15) hx hb hts hiX6 hown hK hP 0 rfl rfl 7 (by decide) fl36 (fun _ h9 => h9) rfl dX6_isCell_3 ?_
  refine lv_iconst (v := 1) hx hb dX6_isCell_6 (by decide) ?_
  refine lv_isub hx hb dX6_isCell_7 ?_
  refine hs_topi 1 (by first | rfl | decide +kernel) ?_
  refine hs_pi (va_runSN (As := [.int i, .int 0, .int 1]) (rest := []) ⟨hx, hb, hml, hown, hts⟩ (c_within l D k _ i 0 1) ⟨(va_cnB 3 hts gX6_isCell_X7_within_n67 rfl rfl rfl hN.2.2.2.2.2.2.1 iniX7 (by decide +kernel) ⟨Nat.le_of_ble_eq_true rfl, Nat.le_of_ble_eq_true rfl⟩), st_X7_within, trivial⟩ (hs_preS hK hN (hs_subP (w := []) hP [] rfl) (hD.sub (ws' := []) [] (by decide) rfl)) rfl rfl hl.1 rfl (lv_room (Nat.le_of_ble_eq_true rfl)) dX6_isCell_8 ⟨Nat.le_of_ble_eq_true rfl, Nat.le_of_ble_eq_true rfl⟩) hP hD hS hA (fun r_1 u_3 H locs hw_2 hP hS => ?_)
  refine hs_topi (hsb (hsin i 0 1)) hw_2 ?_
  exact hs_zret hx hb hr hlocks hK hP hD hS () [0] rfl (by decide) dX6_isCell_11 (hsb_n _) (rfl)

set_option maxHeartbeats 4000000 in
set_option maxRecDepth 100000 in
theorem c_isPerson0 (l : Launch) (D : va_G) (k : Nat → ClassId) (sz : Nat) (t : Nat) (t_weights : Nat) (t_kindOf : Nat) (t_light : Nat) (t_heavy : Nat) (t_seenBy : Nat) (t_seenCut : Nat) (t_seenFound : Nat) (i : Int32)  : MI l yX6_isPerson wsX6_isPerson ({ frames := 1, cells := 0, slots := 0, locals := 22 }) D k [.ref t, .int i] [(t, .inr (5, [.ref t_weights, .ref t_kindOf, .ref t_light, .ref t_heavy, .ref t_seenBy, .ref t_seenCut, .ref t_seenFound, .int 2, .int 0, .int 0, .int 0, .int 0, .int 2, .int 0, .int 0]))] sz (fun (r : Int32) (u : Unit) => r = 0) (fun (u : Unit) => [(t, .inr (5, [.ref t_weights, .ref t_kindOf, .ref t_light, .ref t_heavy, .ref t_seenBy, .ref t_seenCut, .ref t_seenFound, .int 2, .int 0, .int 0, .int 0, .int 0, .int 2, .int 0, .int 0]))]) := by
  refine Met.ofW (cc := cX6_isPerson) (maxL := 2) (ret := (some .boolean)) (by decide) rfl ?_
  intro p e s m args below meth c s₁ B hml hv
  obtain ⟨rfl, hsz, hP, hK, hD0, hN⟩ := hv
  have hx := B.exec
  have hb := B.bytes
  have hr := B.returns
  have hlocks := B.notSynchronized
  have hts := atoms_spec (ws := wsX6_isPerson) B.pre
  have hown : s.vm.findClass RX6 = some m.cls := findClass_of_methodNamed B.named
  have hiX6 : ∀ w ∈ u_ws RX6 TX6 15, w ∈ wsX6_isPerson := by decide +kernel
  have fl40 := hts (.fieldLink RX6 40 "HalfScales$Thing" "peopleCount" "I") (by decide +kernel)
  have iniX7 := hts (.initialized RX7) (by decide +kernel)
  have st_X7_within := hts (.static yX7_within) (by decide +kernel)
  subst hsz
  have hD := hD0.self (sz := s.heap.size)
  generalize hAe : va_A [(t, .inr (5, [.ref t_weights, .ref t_kindOf, .ref t_light, .ref t_heavy, .ref t_seenBy, .ref t_seenCut, .ref t_seenFound, .int 2, .int 0, .int 0, .int 0, .int 0, .int 2, .int 0, .int 0]))] s.heap.size = A at hD ⊢
  have hA : ∀ q : Nat, s.heap.size ≤ q → A q := fun q h => by rw [← hAe]; exact Or.inr h
  have hS : va_S A s.heap s.heap [] := va_S.rf
  have hl := lv_entry ([.ref t, .int i]) (n := 2) (Nat.le_of_ble_eq_true rfl)
  rw [lg_entry_eq]
  generalize (lg_sl ([.ref t, .int i]) ++ List.replicate (2 - (lg_sl ([.ref t, .int i])).length) Slot.unset).toArray = ls at hl ⊢
  have hl : lv_has ls 2 [(0, .ref t), (1, .int i)] := hl
  have hP : va_P D vwCl [(t, .inr (5, [.ref t_weights, .ref t_kindOf, .ref t_light, .ref t_heavy, .ref t_seenBy, .ref t_seenCut, .ref t_seenFound, .int 2, .int 0, .int 0, .int 0, .int 0, .int 2, .int 0, .int 0]))] s.heap := hP
  refine lv_iload_n hx hb dX6_isPerson_0 rfl (lv_at hl 1 rfl) ?_
  refine lv_iconst (v := 0) hx hb dX6_isPerson_1 (by decide) ?_
  refine lv_aload_n hx hb dX6_isPerson_2 rfl (lv_at hl 0 rfl) ?_
  refine va_get (D := D) (ci := 5) (v := .int 0) (C := RX6) (T := TX6) (N := 15) hx hb hts hiX6 hown hK hP 0 rfl rfl 8 (by decide) fl40 (fun _ h9 => h9) rfl dX6_isPerson_3 ?_
  refine lv_iconst (v := 1) hx hb dX6_isPerson_6 (by decide) ?_
  refine lv_isub hx hb dX6_isPerson_7 ?_
  refine hs_topi (-1) (by first | rfl | decide +kernel) ?_
  refine hs_pi (va_runSN (As := [.int i, .int 0, .int (-1)]) (rest := []) ⟨hx, hb, hml, hown, hts⟩ (c_within l D k _ i 0 (-1)) ⟨(va_cnB 3 hts gX6_isPerson_X7_within_n67 rfl rfl rfl hN.2.2.2.2.2.2.1 iniX7 (by decide +kernel) ⟨Nat.le_of_ble_eq_true rfl, Nat.le_of_ble_eq_true rfl⟩), st_X7_within, trivial⟩ (hs_preS hK hN (hs_subP (w := []) hP [] rfl) (hD.sub (ws' := []) [] (by decide) rfl)) rfl rfl hl.1 rfl (lv_room (Nat.le_of_ble_eq_true rfl)) dX6_isPerson_8 ⟨Nat.le_of_ble_eq_true rfl, Nat.le_of_ble_eq_true rfl⟩) hP hD hS hA (fun r_1 u_3 H locs hw_2 hP hS => ?_)
  refine hs_topi 0 (hw_2.trans (by first | rfl | decide +kernel | (rw [hsin_no]; rfl))) ?_
  exact hs_zret hx hb hr hlocks hK hP hD hS () [0] rfl (by decide) dX6_isPerson_11 rfl (rfl)

set_option maxHeartbeats 4000000 in
set_option maxRecDepth 100000 in
theorem c_isCut0 (l : Launch) (D : va_G) (k : Nat → ClassId) (sz : Nat) (t : Nat) (t_weights : Nat) (t_kindOf : Nat) (t_light : Nat) (t_heavy : Nat) (t_seenBy : Nat) (t_seenCut : Nat) (t_seenFound : Nat) (i : Int32)  : MI l yX6_isCut wsX6_isCut ({ frames := 1, cells := 0, slots := 0, locals := 22 }) D k [.ref t, .int i] [(t, .inr (5, [.ref t_weights, .ref t_kindOf, .ref t_light, .ref t_heavy, .ref t_seenBy, .ref t_seenCut, .ref t_seenFound, .int 2, .int 0, .int 0, .int 0, .int 0, .int 2, .int 0, .int 0]))] sz (fun (r : Int32) (u : Unit) => r = hsb (hsin i 1 1)) (fun (u : Unit) => [(t, .inr (5, [.ref t_weights, .ref t_kindOf, .ref t_light, .ref t_heavy, .ref t_seenBy, .ref t_seenCut, .ref t_seenFound, .int 2, .int 0, .int 0, .int 0, .int 0, .int 2, .int 0, .int 0]))]) := by
  refine Met.ofW (cc := cX6_isCut) (maxL := 2) (ret := (some .boolean)) (by decide) rfl ?_
  intro p e s m args below meth c s₁ B hml hv
  obtain ⟨rfl, hsz, hP, hK, hD0, hN⟩ := hv
  have hx := B.exec
  have hb := B.bytes
  have hr := B.returns
  have hlocks := B.notSynchronized
  have hts := atoms_spec (ws := wsX6_isCut) B.pre
  have hown : s.vm.findClass RX6 = some m.cls := findClass_of_methodNamed B.named
  have hiX6 : ∀ w ∈ u_ws RX6 TX6 15, w ∈ wsX6_isCut := by decide +kernel
  have fl36 := hts (.fieldLink RX6 36 "HalfScales$Thing" "cellCount" "I") (by decide +kernel)
  have iniX7 := hts (.initialized RX7) (by decide +kernel)
  have st_X7_within := hts (.static yX7_within) (by decide +kernel)
  subst hsz
  have hD := hD0.self (sz := s.heap.size)
  generalize hAe : va_A [(t, .inr (5, [.ref t_weights, .ref t_kindOf, .ref t_light, .ref t_heavy, .ref t_seenBy, .ref t_seenCut, .ref t_seenFound, .int 2, .int 0, .int 0, .int 0, .int 0, .int 2, .int 0, .int 0]))] s.heap.size = A at hD ⊢
  have hA : ∀ q : Nat, s.heap.size ≤ q → A q := fun q h => by rw [← hAe]; exact Or.inr h
  have hS : va_S A s.heap s.heap [] := va_S.rf
  have hl := lv_entry ([.ref t, .int i]) (n := 2) (Nat.le_of_ble_eq_true rfl)
  rw [lg_entry_eq]
  generalize (lg_sl ([.ref t, .int i]) ++ List.replicate (2 - (lg_sl ([.ref t, .int i])).length) Slot.unset).toArray = ls at hl ⊢
  have hl : lv_has ls 2 [(0, .ref t), (1, .int i)] := hl
  have hP : va_P D vwCl [(t, .inr (5, [.ref t_weights, .ref t_kindOf, .ref t_light, .ref t_heavy, .ref t_seenBy, .ref t_seenCut, .ref t_seenFound, .int 2, .int 0, .int 0, .int 0, .int 0, .int 2, .int 0, .int 0]))] s.heap := hP
  refine lv_iload_n hx hb dX6_isCut_0 rfl (lv_at hl 1 rfl) ?_
  refine lv_iconst (v := 1) hx hb dX6_isCut_1 (by decide) ?_
  refine lv_aload_n hx hb dX6_isCut_2 rfl (lv_at hl 0 rfl) ?_
  refine va_get (D := D) (ci := 5) (v := .int 2) (C := RX6) (T := TX6) (N := 15) hx hb hts hiX6 hown hK hP 0 rfl rfl 7 (by decide) fl36 (fun _ h9 => h9) rfl dX6_isCut_3 ?_
  refine lv_iconst (v := 1) hx hb dX6_isCut_6 (by decide) ?_
  refine lv_isub hx hb dX6_isCut_7 ?_
  refine hs_topi 1 (by first | rfl | decide +kernel) ?_
  refine hs_pi (va_runSN (As := [.int i, .int 1, .int 1]) (rest := []) ⟨hx, hb, hml, hown, hts⟩ (c_within l D k _ i 1 1) ⟨(va_cnB 3 hts gX6_isCut_X7_within_n67 rfl rfl rfl hN.2.2.2.2.2.2.1 iniX7 (by decide +kernel) ⟨Nat.le_of_ble_eq_true rfl, Nat.le_of_ble_eq_true rfl⟩), st_X7_within, trivial⟩ (hs_preS hK hN (hs_subP (w := []) hP [] rfl) (hD.sub (ws' := []) [] (by decide) rfl)) rfl rfl hl.1 rfl (lv_room (Nat.le_of_ble_eq_true rfl)) dX6_isCut_8 ⟨Nat.le_of_ble_eq_true rfl, Nat.le_of_ble_eq_true rfl⟩) hP hD hS hA (fun r_1 u_3 H locs hw_2 hP hS => ?_)
  refine hs_topi (hsb (hsin i 1 1)) hw_2 ?_
  exact hs_zret hx hb hr hlocks hK hP hD hS () [0] rfl (by decide) dX6_isCut_11 (hsb_n _) (rfl)

set_option maxHeartbeats 4000000 in
set_option maxRecDepth 100000 in
theorem c_isHalf0 (l : Launch) (D : va_G) (k : Nat → ClassId) (sz : Nat) (t : Nat) (t_weights : Nat) (t_kindOf : Nat) (t_light : Nat) (t_heavy : Nat) (t_seenBy : Nat) (t_seenCut : Nat) (t_seenFound : Nat) (i : Int32)  : MI l yX6_isHalf wsX6_isHalf ({ frames := 1, cells := 0, slots := 0, locals := 22 }) D k [.ref t, .int i] [(t, .inr (5, [.ref t_weights, .ref t_kindOf, .ref t_light, .ref t_heavy, .ref t_seenBy, .ref t_seenCut, .ref t_seenFound, .int 2, .int 0, .int 0, .int 0, .int 0, .int 2, .int 0, .int 0]))] sz (fun (r : Int32) (u : Unit) => r = hsb (hsin i 0 1)) (fun (u : Unit) => [(t, .inr (5, [.ref t_weights, .ref t_kindOf, .ref t_light, .ref t_heavy, .ref t_seenBy, .ref t_seenCut, .ref t_seenFound, .int 2, .int 0, .int 0, .int 0, .int 0, .int 2, .int 0, .int 0]))]) := by
  refine Met.ofW (cc := cX6_isHalf) (maxL := 2) (ret := (some .boolean)) (by decide) rfl ?_
  intro p e s m args below meth c s₁ B hml hv
  obtain ⟨rfl, hsz, hP, hK, hD0, hN⟩ := hv
  have hx := B.exec
  have hb := B.bytes
  have hr := B.returns
  have hlocks := B.notSynchronized
  have hts := atoms_spec (ws := wsX6_isHalf) B.pre
  have hown : s.vm.findClass RX6 = some m.cls := findClass_of_methodNamed B.named
  have hiX6 : ∀ w ∈ u_ws RX6 TX6 15, w ∈ wsX6_isHalf := by decide +kernel
  have fl52 := hts (.fieldLink RX6 52 "HalfScales$Thing" "halfCount" "I") (by decide +kernel)
  have iniX7 := hts (.initialized RX7) (by decide +kernel)
  have st_X7_within := hts (.static yX7_within) (by decide +kernel)
  subst hsz
  have hD := hD0.self (sz := s.heap.size)
  generalize hAe : va_A [(t, .inr (5, [.ref t_weights, .ref t_kindOf, .ref t_light, .ref t_heavy, .ref t_seenBy, .ref t_seenCut, .ref t_seenFound, .int 2, .int 0, .int 0, .int 0, .int 0, .int 2, .int 0, .int 0]))] s.heap.size = A at hD ⊢
  have hA : ∀ q : Nat, s.heap.size ≤ q → A q := fun q h => by rw [← hAe]; exact Or.inr h
  have hS : va_S A s.heap s.heap [] := va_S.rf
  have hl := lv_entry ([.ref t, .int i]) (n := 2) (Nat.le_of_ble_eq_true rfl)
  rw [lg_entry_eq]
  generalize (lg_sl ([.ref t, .int i]) ++ List.replicate (2 - (lg_sl ([.ref t, .int i])).length) Slot.unset).toArray = ls at hl ⊢
  have hl : lv_has ls 2 [(0, .ref t), (1, .int i)] := hl
  have hP : va_P D vwCl [(t, .inr (5, [.ref t_weights, .ref t_kindOf, .ref t_light, .ref t_heavy, .ref t_seenBy, .ref t_seenCut, .ref t_seenFound, .int 2, .int 0, .int 0, .int 0, .int 0, .int 2, .int 0, .int 0]))] s.heap := hP
  refine lv_iload_n hx hb dX6_isHalf_0 rfl (lv_at hl 1 rfl) ?_
  refine lv_iconst (v := 0) hx hb dX6_isHalf_1 (by decide) ?_
  refine lv_aload_n hx hb dX6_isHalf_2 rfl (lv_at hl 0 rfl) ?_
  refine va_get (D := D) (ci := 5) (v := .int 2) (C := RX6) (T := TX6) (N := 15) hx hb hts hiX6 hown hK hP 0 rfl rfl 12 (by decide) fl52 (fun _ h9 => h9) rfl dX6_isHalf_3 ?_
  refine lv_iconst (v := 1) hx hb dX6_isHalf_6 (by decide) ?_
  refine lv_isub hx hb dX6_isHalf_7 ?_
  refine hs_topi 1 (by first | rfl | decide +kernel) ?_
  refine hs_pi (va_runSN (As := [.int i, .int 0, .int 1]) (rest := []) ⟨hx, hb, hml, hown, hts⟩ (c_within l D k _ i 0 1) ⟨(va_cnB 3 hts gX6_isHalf_X7_within_n67 rfl rfl rfl hN.2.2.2.2.2.2.1 iniX7 (by decide +kernel) ⟨Nat.le_of_ble_eq_true rfl, Nat.le_of_ble_eq_true rfl⟩), st_X7_within, trivial⟩ (hs_preS hK hN (hs_subP (w := []) hP [] rfl) (hD.sub (ws' := []) [] (by decide) rfl)) rfl rfl hl.1 rfl (lv_room (Nat.le_of_ble_eq_true rfl)) dX6_isHalf_8 ⟨Nat.le_of_ble_eq_true rfl, Nat.le_of_ble_eq_true rfl⟩) hP hD hS hA (fun r_1 u_3 H locs hw_2 hP hS => ?_)
  refine hs_topi (hsb (hsin i 0 1)) hw_2 ?_
  exact hs_zret hx hb hr hlocks hK hP hD hS () [0] rfl (by decide) dX6_isHalf_11 (hsb_n _) (rfl)

set_option maxHeartbeats 4000000 in
set_option maxRecDepth 100000 in
theorem c_canWeigh0 (l : Launch) (D : va_G) (k : Nat → ClassId) (sz : Nat) (t : Nat) (t_weights : Nat) (t_kindOf : Nat) (t_light : Nat) (t_heavy : Nat) (t_seenBy : Nat) (t_seenCut : Nat) (t_seenFound : Nat) (i : Int32) (v : Int32)  : MI l yX6_canWeigh wsX6_canWeigh ({ frames := 2, cells := 0, slots := 0, locals := 43 }) D k [.ref t, .int i, .int v] [(t, .inr (5, [.ref t_weights, .ref t_kindOf, .ref t_light, .ref t_heavy, .ref t_seenBy, .ref t_seenCut, .ref t_seenFound, .int 2, .int 0, .int 0, .int 0, .int 0, .int 2, .int 0, .int 0]))] sz (fun (r : Int32) (u : Unit) => r = hsb (hsin i 0 1 && hsin v 0 9)) (fun (u : Unit) => [(t, .inr (5, [.ref t_weights, .ref t_kindOf, .ref t_light, .ref t_heavy, .ref t_seenBy, .ref t_seenCut, .ref t_seenFound, .int 2, .int 0, .int 0, .int 0, .int 0, .int 2, .int 0, .int 0]))]) := by
  refine Met.ofW (cc := cX6_canWeigh) (maxL := 3) (ret := (some .boolean)) (by decide) rfl ?_
  intro p e s m args below meth c s₁ B hml hv
  obtain ⟨rfl, hsz, hP, hK, hD0, hN⟩ := hv
  have hx := B.exec
  have hb := B.bytes
  have hr := B.returns
  have hlocks := B.notSynchronized
  have hts := atoms_spec (ws := wsX6_canWeigh) B.pre
  have hown : s.vm.findClass RX6 = some m.cls := findClass_of_methodNamed B.named
  have iniX7 := hts (.initialized RX7) (by decide +kernel)
  have st_X7_within := hts (.static yX7_within) (by decide +kernel)
  subst hsz
  have hD := hD0.self (sz := s.heap.size)
  generalize hAe : va_A [(t, .inr (5, [.ref t_weights, .ref t_kindOf, .ref t_light, .ref t_heavy, .ref t_seenBy, .ref t_seenCut, .ref t_seenFound, .int 2, .int 0, .int 0, .int 0, .int 0, .int 2, .int 0, .int 0]))] s.heap.size = A at hD ⊢
  have hA : ∀ q : Nat, s.heap.size ≤ q → A q := fun q h => by rw [← hAe]; exact Or.inr h
  have hS : va_S A s.heap s.heap [] := va_S.rf
  have hl := lv_entry ([.ref t, .int i, .int v]) (n := 3) (Nat.le_of_ble_eq_true rfl)
  rw [lg_entry_eq]
  generalize (lg_sl ([.ref t, .int i, .int v]) ++ List.replicate (3 - (lg_sl ([.ref t, .int i, .int v])).length) Slot.unset).toArray = ls at hl ⊢
  have hl : lv_has ls 3 [(0, .ref t), (1, .int i), (2, .int v)] := hl
  have hP : va_P D vwCl [(t, .inr (5, [.ref t_weights, .ref t_kindOf, .ref t_light, .ref t_heavy, .ref t_seenBy, .ref t_seenCut, .ref t_seenFound, .int 2, .int 0, .int 0, .int 0, .int 0, .int 2, .int 0, .int 0]))] s.heap := hP
  refine lv_aload_n hx hb dX6_canWeigh_0 rfl (lv_at hl 0 rfl) ?_
  refine lv_iload_n hx hb dX6_canWeigh_1 rfl (lv_at hl 1 rfl) ?_
  refine hs_ci (va_runV (As := [.int i]) (rest := []) ⟨hx, hb, hml, hown, hts⟩ (c_isCell0 l D k _ t t_weights t_kindOf t_light t_heavy t_seenBy t_seenCut t_seenFound i) (cwV 1 hts gX6_canWeigh_X6_isCell rfl rfl rfl (by decide +kernel) ⟨Nat.le_of_ble_eq_true rfl, Nat.le_of_ble_eq_true rfl⟩) (hs_preV hK hN (hs_subP (w := [(t, .inr (5, [.ref t_weights, .ref t_kindOf, .ref t_light, .ref t_heavy, .ref t_seenBy, .ref t_seenCut, .ref t_seenFound, .int 2, .int 0, .int 0, .int 0, .int 0, .int 2, .int 0, .int 0]))]) hP [0] rfl) (hD.sub (ws' := [(t, .inr (5, [.ref t_weights, .ref t_kindOf, .ref t_light, .ref t_heavy, .ref t_seenBy, .ref t_seenCut, .ref t_seenFound, .int 2, .int 0, .int 0, .int 0, .int 0, .int 2, .int 0, .int 0]))]) [0] (by decide) rfl) (ci := 5) (q0 := 0) rfl rfl) rfl rfl hl.1 rfl (lv_room (Nat.le_of_ble_eq_true rfl)) dX6_canWeigh_2 ⟨Nat.le_of_ble_eq_true rfl, Nat.le_of_ble_eq_true rfl⟩) hP hD hS hA [0] [] [] rfl rfl (by decide) (by decide) [0] (fun u_3 => [(t, .inr (5, [.ref t_weights, .ref t_kindOf, .ref t_light, .ref t_heavy, .ref t_seenBy, .ref t_seenCut, .ref t_seenFound, .int 2, .int 0, .int 0, .int 0, .int 0, .int 2, .int 0, .int 0]))]) (fun _ => rfl) (by decide) (fun r_1 u_3 H locs hw_2 hP hD hS => ?_)
  have hP : va_P D vwCl [(t, .inr (5, [.ref t_weights, .ref t_kindOf, .ref t_light, .ref t_heavy, .ref t_seenBy, .ref t_seenCut, .ref t_seenFound, .int 2, .int 0, .int 0, .int 0, .int 0, .int 2, .int 0, .int 0]))] H := hP
  have hD : va_D A [(t, .inr (5, [.ref t_weights, .ref t_kindOf, .ref t_light, .ref t_heavy, .ref t_seenBy, .ref t_seenCut, .ref t_seenFound, .int 2, .int 0, .int 0, .int 0, .int 0, .int 2, .int 0, .int 0]))] := hD
  refine hs_topi (hsb (hsin i 0 1)) hw_2 ?_
  refine lv_if_eq (tgt := 22) hx hb dX6_canWeigh_5 (by decide) (fun c_4 => ?_) (fun c_4 => ?_)
  · refine lv_iconst (v := 0) hx hb dX6_canWeigh_22 (by decide) ?_
    exact hs_zret hx hb hr hlocks hK hP hD hS () [0] rfl (by decide) dX6_canWeigh_23 rfl (by simp only [hsb_0, hsb_1] at c_4; simp [hsb, c_4])
  · refine lv_iload_n hx hb dX6_canWeigh_8 rfl (lv_at hl 2 rfl) ?_
    refine lv_iconst (v := 0) hx hb dX6_canWeigh_9 (by decide) ?_
    refine lv_bipush (v := 9) hx hb dX6_canWeigh_10 (by decide) ?_
    refine hs_pi (va_runSN (As := [.int v, .int 0, .int 9]) (rest := []) ⟨hx, hb, hml, hown, hts⟩ (c_within l D k _ v 0 9) ⟨(va_cnB 3 hts gX6_canWeigh_X7_within_n67 rfl rfl rfl hN.2.2.2.2.2.2.1 iniX7 (by decide +kernel) ⟨Nat.le_of_ble_eq_true rfl, Nat.le_of_ble_eq_true rfl⟩), st_X7_within, trivial⟩ (hs_preS hK hN (hs_subP (w := []) hP [] rfl) (hD.sub (ws' := []) [] (by decide) rfl)) rfl rfl hl.1 rfl (lv_room (Nat.le_of_ble_eq_true rfl)) dX6_canWeigh_12 ⟨Nat.le_of_ble_eq_true rfl, Nat.le_of_ble_eq_true rfl⟩) hP hD hS hA (fun r_5 u_7 H locs hw_6 hP hS => ?_)
    refine hs_topi (hsb (hsin v 0 9)) hw_6 ?_
    refine lv_if_eq (tgt := 22) hx hb dX6_canWeigh_15 (by decide) (fun c_8 => ?_) (fun c_8 => ?_)
    · refine lv_iconst (v := 0) hx hb dX6_canWeigh_22 (by decide) ?_
      exact hs_zret hx hb hr hlocks hK hP hD hS () [0] rfl (by decide) dX6_canWeigh_23 rfl (by simp only [hsb_0, hsb_1] at c_4 c_8; simp [hsb, c_4, c_8])
    · refine lv_iconst (v := 1) hx hb dX6_canWeigh_18 (by decide) ?_
      refine lv_goto (tgt := 23) hx hb dX6_canWeigh_19 (by decide) ?_
      exact hs_zret hx hb hr hlocks hK hP hD hS () [0] rfl (by decide) dX6_canWeigh_23 rfl (by simp only [hsb_0, hsb_1] at c_4 c_8; simp [hsb, c_4, c_8])

set_option maxHeartbeats 4000000 in
set_option maxRecDepth 100000 in
theorem c_allCells0 (l : Launch) (D : va_G) (k : Nat → ClassId) (sz : Nat) (t : Nat) (t_weights : Nat) (t_kindOf : Nat) (t_light : Nat) (t_heavy : Nat) (t_seenBy : Nat) (t_seenCut : Nat) (t_seenFound : Nat)  : MI l yX6_allCells wsX6_allCells ({ frames := 0, cells := 0, slots := 0, locals := 0 }) D k [.ref t] [(t, .inr (5, [.ref t_weights, .ref t_kindOf, .ref t_light, .ref t_heavy, .ref t_seenBy, .ref t_seenCut, .ref t_seenFound, .int 2, .int 0, .int 0, .int 0, .int 0, .int 2, .int 0, .int 0]))] sz (fun (r : Int32) (u : Unit) => r = 3) (fun (u : Unit) => [(t, .inr (5, [.ref t_weights, .ref t_kindOf, .ref t_light, .ref t_heavy, .ref t_seenBy, .ref t_seenCut, .ref t_seenFound, .int 2, .int 0, .int 0, .int 0, .int 0, .int 2, .int 0, .int 0]))]) := by
  refine Met.ofW (cc := cX6_allCells) (maxL := 1) (ret := (some .int)) (by decide) rfl ?_
  intro p e s m args below meth c s₁ B hml hv
  obtain ⟨rfl, hsz, hP, hK, hD0, hN⟩ := hv
  have hx := B.exec
  have hb := B.bytes
  have hr := B.returns
  have hlocks := B.notSynchronized
  have hts := atoms_spec (ws := wsX6_allCells) B.pre
  have hown : s.vm.findClass RX6 = some m.cls := findClass_of_methodNamed B.named
  have hiX6 : ∀ w ∈ u_ws RX6 TX6 15, w ∈ wsX6_allCells := by decide +kernel
  have fl36 := hts (.fieldLink RX6 36 "HalfScales$Thing" "cellCount" "I") (by decide +kernel)
  subst hsz
  have hD := hD0.self (sz := s.heap.size)
  generalize hAe : va_A [(t, .inr (5, [.ref t_weights, .ref t_kindOf, .ref t_light, .ref t_heavy, .ref t_seenBy, .ref t_seenCut, .ref t_seenFound, .int 2, .int 0, .int 0, .int 0, .int 0, .int 2, .int 0, .int 0]))] s.heap.size = A at hD ⊢
  have hA : ∀ q : Nat, s.heap.size ≤ q → A q := fun q h => by rw [← hAe]; exact Or.inr h
  have hS : va_S A s.heap s.heap [] := va_S.rf
  have hl := lv_entry ([.ref t]) (n := 1) (Nat.le_of_ble_eq_true rfl)
  rw [lg_entry_eq]
  generalize (lg_sl ([.ref t]) ++ List.replicate (1 - (lg_sl ([.ref t])).length) Slot.unset).toArray = ls at hl ⊢
  have hl : lv_has ls 1 [(0, .ref t)] := hl
  have hP : va_P D vwCl [(t, .inr (5, [.ref t_weights, .ref t_kindOf, .ref t_light, .ref t_heavy, .ref t_seenBy, .ref t_seenCut, .ref t_seenFound, .int 2, .int 0, .int 0, .int 0, .int 0, .int 2, .int 0, .int 0]))] s.heap := hP
  refine lv_iconst (v := 1) hx hb dX6_allCells_0 (by decide) ?_
  refine lv_aload_n hx hb dX6_allCells_1 rfl (lv_at hl 0 rfl) ?_
  refine va_get (D := D) (ci := 5) (v := .int 2) (C := RX6) (T := TX6) (N := 15) hx hb hts hiX6 hown hK hP 0 rfl rfl 7 (by decide) fl36 (fun _ h9 => h9) rfl dX6_allCells_2 ?_
  refine lv_ishl hx hb dX6_allCells_5 ?_
  refine hs_topi 4 (by first | rfl | decide +kernel) ?_
  refine lv_iconst (v := 1) hx hb dX6_allCells_6 (by decide) ?_
  refine lv_isub hx hb dX6_allCells_7 ?_
  refine hs_topi 3 (by first | rfl | decide +kernel) ?_
  exact hs_iret hx hb hr hlocks hK hP hD hS () [0] rfl (by decide) dX6_allCells_8 (rfl)

set_option maxHeartbeats 4000000 in
set_option maxRecDepth 100000 in
theorem c_allPeople0 (l : Launch) (D : va_G) (k : Nat → ClassId) (sz : Nat) (t : Nat) (t_weights : Nat) (t_kindOf : Nat) (t_light : Nat) (t_heavy : Nat) (t_seenBy : Nat) (t_seenCut : Nat) (t_seenFound : Nat)  : MI l yX6_allPeople wsX6_allPeople ({ frames := 0, cells := 0, slots := 0, locals := 0 }) D k [.ref t] [(t, .inr (5, [.ref t_weights, .ref t_kindOf, .ref t_light, .ref t_heavy, .ref t_seenBy, .ref t_seenCut, .ref t_seenFound, .int 2, .int 0, .int 0, .int 0, .int 0, .int 2, .int 0, .int 0]))] sz (fun (r : Int32) (u : Unit) => r = 0) (fun (u : Unit) => [(t, .inr (5, [.ref t_weights, .ref t_kindOf, .ref t_light, .ref t_heavy, .ref t_seenBy, .ref t_seenCut, .ref t_seenFound, .int 2, .int 0, .int 0, .int 0, .int 0, .int 2, .int 0, .int 0]))]) := by
  refine Met.ofW (cc := cX6_allPeople) (maxL := 1) (ret := (some .int)) (by decide) rfl ?_
  intro p e s m args below meth c s₁ B hml hv
  obtain ⟨rfl, hsz, hP, hK, hD0, hN⟩ := hv
  have hx := B.exec
  have hb := B.bytes
  have hr := B.returns
  have hlocks := B.notSynchronized
  have hts := atoms_spec (ws := wsX6_allPeople) B.pre
  have hown : s.vm.findClass RX6 = some m.cls := findClass_of_methodNamed B.named
  have hiX6 : ∀ w ∈ u_ws RX6 TX6 15, w ∈ wsX6_allPeople := by decide +kernel
  have fl40 := hts (.fieldLink RX6 40 "HalfScales$Thing" "peopleCount" "I") (by decide +kernel)
  subst hsz
  have hD := hD0.self (sz := s.heap.size)
  generalize hAe : va_A [(t, .inr (5, [.ref t_weights, .ref t_kindOf, .ref t_light, .ref t_heavy, .ref t_seenBy, .ref t_seenCut, .ref t_seenFound, .int 2, .int 0, .int 0, .int 0, .int 0, .int 2, .int 0, .int 0]))] s.heap.size = A at hD ⊢
  have hA : ∀ q : Nat, s.heap.size ≤ q → A q := fun q h => by rw [← hAe]; exact Or.inr h
  have hS : va_S A s.heap s.heap [] := va_S.rf
  have hl := lv_entry ([.ref t]) (n := 1) (Nat.le_of_ble_eq_true rfl)
  rw [lg_entry_eq]
  generalize (lg_sl ([.ref t]) ++ List.replicate (1 - (lg_sl ([.ref t])).length) Slot.unset).toArray = ls at hl ⊢
  have hl : lv_has ls 1 [(0, .ref t)] := hl
  have hP : va_P D vwCl [(t, .inr (5, [.ref t_weights, .ref t_kindOf, .ref t_light, .ref t_heavy, .ref t_seenBy, .ref t_seenCut, .ref t_seenFound, .int 2, .int 0, .int 0, .int 0, .int 0, .int 2, .int 0, .int 0]))] s.heap := hP
  refine lv_iconst (v := 1) hx hb dX6_allPeople_0 (by decide) ?_
  refine lv_aload_n hx hb dX6_allPeople_1 rfl (lv_at hl 0 rfl) ?_
  refine va_get (D := D) (ci := 5) (v := .int 0) (C := RX6) (T := TX6) (N := 15) hx hb hts hiX6 hown hK hP 0 rfl rfl 8 (by decide) fl40 (fun _ h9 => h9) rfl dX6_allPeople_2 ?_
  refine lv_ishl hx hb dX6_allPeople_5 ?_
  refine hs_topi 1 (by first | rfl | decide +kernel) ?_
  refine lv_iconst (v := 1) hx hb dX6_allPeople_6 (by decide) ?_
  refine lv_isub hx hb dX6_allPeople_7 ?_
  refine hs_topi 0 (by first | rfl | decide +kernel) ?_
  exact hs_iret hx hb hr hlocks hK hP hD hS () [0] rfl (by decide) dX6_allPeople_8 (rfl)

set_option maxHeartbeats 4000000 in
set_option maxRecDepth 100000 in
theorem c_allWeights0 (l : Launch) (D : va_G) (k : Nat → ClassId) (sz : Nat) (t : Nat) (t_weights : Nat) (t_kindOf : Nat) (t_light : Nat) (t_heavy : Nat) (t_seenBy : Nat) (t_seenCut : Nat) (t_seenFound : Nat)  : MI l yX6_allWeights wsX6_allWeights ({ frames := 0, cells := 0, slots := 0, locals := 0 }) D k [.ref t] [(t, .inr (5, [.ref t_weights, .ref t_kindOf, .ref t_light, .ref t_heavy, .ref t_seenBy, .ref t_seenCut, .ref t_seenFound, .int 2, .int 0, .int 0, .int 0, .int 0, .int 2, .int 0, .int 0])), (t_weights, .inl (k 0, 8, .inl (hsw)))] sz (fun (r : Int32) (u : Unit) => r = 2) (fun (u : Unit) => [(t, .inr (5, [.ref t_weights, .ref t_kindOf, .ref t_light, .ref t_heavy, .ref t_seenBy, .ref t_seenCut, .ref t_seenFound, .int 2, .int 0, .int 0, .int 0, .int 0, .int 2, .int 0, .int 0])), (t_weights, .inl (k 0, 8, .inl (hsw)))]) := by
  refine Met.ofW (cc := cX6_allWeights) (maxL := 3) (ret := (some .int)) (by decide) rfl ?_
  intro p e s m args below meth c s₁ B hml hv
  obtain ⟨rfl, hsz, hP, hK, hD0, hN⟩ := hv
  have hx := B.exec
  have hb := B.bytes
  have hr := B.returns
  have hlocks := B.notSynchronized
  have hts := atoms_spec (ws := wsX6_allWeights) B.pre
  have hown : s.vm.findClass RX6 = some m.cls := findClass_of_methodNamed B.named
  have hiX6 : ∀ w ∈ u_ws RX6 TX6 15, w ∈ wsX6_allWeights := by decide +kernel
  have fl36 := hts (.fieldLink RX6 36 "HalfScales$Thing" "cellCount" "I") (by decide +kernel)
  have fl9 := hts (.fieldLink RX6 9 "HalfScales$Thing" "weights" "[I") (by decide +kernel)
  subst hsz
  have hD := hD0.self (sz := s.heap.size)
  generalize hAe : va_A [(t, .inr (5, [.ref t_weights, .ref t_kindOf, .ref t_light, .ref t_heavy, .ref t_seenBy, .ref t_seenCut, .ref t_seenFound, .int 2, .int 0, .int 0, .int 0, .int 0, .int 2, .int 0, .int 0])), (t_weights, .inl (k 0, 8, .inl (hsw)))] s.heap.size = A at hD ⊢
  have hA : ∀ q : Nat, s.heap.size ≤ q → A q := fun q h => by rw [← hAe]; exact Or.inr h
  have hS : va_S A s.heap s.heap [] := va_S.rf
  have hl := lv_entry ([.ref t]) (n := 3) (Nat.le_of_ble_eq_true rfl)
  rw [lg_entry_eq]
  generalize (lg_sl ([.ref t]) ++ List.replicate (3 - (lg_sl ([.ref t])).length) Slot.unset).toArray = ls at hl ⊢
  have hl : lv_has ls 3 [(0, .ref t)] := hl
  have hP : va_P D vwCl [(t, .inr (5, [.ref t_weights, .ref t_kindOf, .ref t_light, .ref t_heavy, .ref t_seenBy, .ref t_seenCut, .ref t_seenFound, .int 2, .int 0, .int 0, .int 0, .int 0, .int 2, .int 0, .int 0])), (t_weights, .inl (k 0, 8, .inl (hsw)))] s.heap := hP
  refine lv_iconst (v := 0) hx hb dX6_allWeights_0 (by decide) ?_
  refine lv_istore_n (lv' := [(1, .int 0), (0, .ref t)]) hx hb dX6_allWeights_1 rfl hl (by decide) rfl (fun ls hl => ?_)
  refine lv_iconst (v := 0) hx hb dX6_allWeights_2 (by decide) ?_
  refine lv_istore_n (lv' := [(2, .int 0), (1, .int 0), (0, .ref t)]) hx hb dX6_allWeights_3 rfl hl (by decide) rfl (fun ls hl => ?_)
  refine lv_iload_n hx hb dX6_allWeights_4 rfl (lv_at hl 0 rfl) ?_
  refine lv_aload_n hx hb dX6_allWeights_5 rfl (lv_at hl 2 rfl) ?_
  refine va_get (D := D) (ci := 5) (v := .int 2) (C := RX6) (T := TX6) (N := 15) hx hb hts hiX6 hown hK hP 0 rfl rfl 7 (by decide) fl36 (fun _ h9 => h9) rfl dX6_allWeights_6 ?_
  refine lv_icmp_ge (tgt := 27) hx hb dX6_allWeights_9 (by decide) (fun c_1 => absurd c_1 (by decide)) (fun c_1 => ?_)
  refine lv_iload_n hx hb dX6_allWeights_12 rfl (lv_at hl 1 rfl) ?_
  refine lv_aload_n hx hb dX6_allWeights_13 rfl (lv_at hl 2 rfl) ?_
  refine va_get (D := D) (ci := 5) (v := .ref t_weights) (C := RX6) (T := TX6) (N := 15) hx hb hts hiX6 hown hK hP 0 rfl rfl 0 (by decide) fl9 (fun _ h9 => h9) rfl dX6_allWeights_14 ?_
  refine lv_iload_n hx hb dX6_allWeights_17 rfl (lv_at hl 0 rfl) ?_
  refine va_iald hx hb hK hP 1 0 rfl rfl (hs_in (by decide)) dX6_allWeights_18 ?_
  refine hs_topi 1 (by first | rfl | decide +kernel) ?_
  refine lv_iadd hx hb dX6_allWeights_19 ?_
  refine hs_topi 1 (by first | rfl | decide +kernel) ?_
  refine lv_istore_n (lv' := [(1, .int 1), (2, .int 0), (0, .ref t)]) hx hb dX6_allWeights_20 rfl hl (by decide) rfl (fun ls hl => ?_)
  refine lv_iinc (v := 1) (lv' := [(2, .int 1), (1, .int 1), (0, .ref t)]) hx hb dX6_allWeights_21 hl (k := 1) rfl (by decide) (by decide) rfl (fun ls hl => ?_)
  refine lv_goto (tgt := 4) hx hb dX6_allWeights_24 (by decide) ?_
  refine lv_iload_n hx hb dX6_allWeights_4 rfl (lv_at hl 0 rfl) ?_
  refine lv_aload_n hx hb dX6_allWeights_5 rfl (lv_at hl 2 rfl) ?_
  refine va_get (D := D) (ci := 5) (v := .int 2) (C := RX6) (T := TX6) (N := 15) hx hb hts hiX6 hown hK hP 0 rfl rfl 7 (by decide) fl36 (fun _ h9 => h9) rfl dX6_allWeights_6 ?_
  refine lv_icmp_ge (tgt := 27) hx hb dX6_allWeights_9 (by decide) (fun c_2 => absurd c_2 (by decide)) (fun c_2 => ?_)
  refine lv_iload_n hx hb dX6_allWeights_12 rfl (lv_at hl 1 rfl) ?_
  refine lv_aload_n hx hb dX6_allWeights_13 rfl (lv_at hl 2 rfl) ?_
  refine va_get (D := D) (ci := 5) (v := .ref t_weights) (C := RX6) (T := TX6) (N := 15) hx hb hts hiX6 hown hK hP 0 rfl rfl 0 (by decide) fl9 (fun _ h9 => h9) rfl dX6_allWeights_14 ?_
  refine lv_iload_n hx hb dX6_allWeights_17 rfl (lv_at hl 0 rfl) ?_
  refine va_iald hx hb hK hP 1 0 rfl rfl (hs_in (by decide)) dX6_allWeights_18 ?_
  refine hs_topi 1 (by first | rfl | decide +kernel) ?_
  refine lv_iadd hx hb dX6_allWeights_19 ?_
  refine hs_topi 2 (by first | rfl | decide +kernel) ?_
  refine lv_istore_n (lv' := [(1, .int 2), (2, .int 1), (0, .ref t)]) hx hb dX6_allWeights_20 rfl hl (by decide) rfl (fun ls hl => ?_)
  refine lv_iinc (v := 2) (lv' := [(2, .int 2), (1, .int 2), (0, .ref t)]) hx hb dX6_allWeights_21 hl (k := 1) rfl (by decide) (by decide) rfl (fun ls hl => ?_)
  refine lv_goto (tgt := 4) hx hb dX6_allWeights_24 (by decide) ?_
  refine lv_iload_n hx hb dX6_allWeights_4 rfl (lv_at hl 0 rfl) ?_
  refine lv_aload_n hx hb dX6_allWeights_5 rfl (lv_at hl 2 rfl) ?_
  refine va_get (D := D) (ci := 5) (v := .int 2) (C := RX6) (T := TX6) (N := 15) hx hb hts hiX6 hown hK hP 0 rfl rfl 7 (by decide) fl36 (fun _ h9 => h9) rfl dX6_allWeights_6 ?_
  refine lv_icmp_ge (tgt := 27) hx hb dX6_allWeights_9 (by decide) (fun c_3 => ?_) (fun c_3 => absurd c_3 (by decide))
  refine lv_iload_n hx hb dX6_allWeights_27 rfl (lv_at hl 1 rfl) ?_
  exact hs_iret hx hb hr hlocks hK hP hD hS () [0, 1] rfl (by decide) dX6_allWeights_28 (rfl)

set_option maxHeartbeats 4000000 in
set_option maxRecDepth 100000 in
theorem c_justTo0 (l : Launch) (D : va_G) (k : Nat → ClassId) (sz : Nat) (t : Nat) (t_weights : Nat) (t_kindOf : Nat) (t_light : Nat) (t_heavy : Nat) (t_seenBy : Nat) (t_seenCut : Nat) (t_seenFound : Nat) (kk : Int32)  : MI l yX6_justTo wsX6_justTo ({ frames := 0, cells := 0, slots := 0, locals := 0 }) D k [.ref t, .int kk] [(t, .inr (5, [.ref t_weights, .ref t_kindOf, .ref t_light, .ref t_heavy, .ref t_seenBy, .ref t_seenCut, .ref t_seenFound, .int 2, .int 0, .int 0, .int 0, .int 0, .int 2, .int 0, .int 0]))] sz (fun (r : Int32) (u : Unit) => r = 0) (fun (u : Unit) => [(t, .inr (5, [.ref t_weights, .ref t_kindOf, .ref t_light, .ref t_heavy, .ref t_seenBy, .ref t_seenCut, .ref t_seenFound, .int 2, .int 0, .int 0, .int 0, .int 0, .int 2, .int 0, .int 0]))]) := by
  refine Met.ofW (cc := cX6_justTo) (maxL := 4) (ret := (some .int)) (by decide) rfl ?_
  intro p e s m args below meth c s₁ B hml hv
  obtain ⟨rfl, hsz, hP, hK, hD0, hN⟩ := hv
  have hx := B.exec
  have hb := B.bytes
  have hr := B.returns
  have hlocks := B.notSynchronized
  have hts := atoms_spec (ws := wsX6_justTo) B.pre
  have hown : s.vm.findClass RX6 = some m.cls := findClass_of_methodNamed B.named
  have hiX6 : ∀ w ∈ u_ws RX6 TX6 15, w ∈ wsX6_justTo := by decide +kernel
  have fl40 := hts (.fieldLink RX6 40 "HalfScales$Thing" "peopleCount" "I") (by decide +kernel)
  subst hsz
  have hD := hD0.self (sz := s.heap.size)
  generalize hAe : va_A [(t, .inr (5, [.ref t_weights, .ref t_kindOf, .ref t_light, .ref t_heavy, .ref t_seenBy, .ref t_seenCut, .ref t_seenFound, .int 2, .int 0, .int 0, .int 0, .int 0, .int 2, .int 0, .int 0]))] s.heap.size = A at hD ⊢
  have hA : ∀ q : Nat, s.heap.size ≤ q → A q := fun q h => by rw [← hAe]; exact Or.inr h
  have hS : va_S A s.heap s.heap [] := va_S.rf
  have hl := lv_entry ([.ref t, .int kk]) (n := 4) (Nat.le_of_ble_eq_true rfl)
  rw [lg_entry_eq]
  generalize (lg_sl ([.ref t, .int kk]) ++ List.replicate (4 - (lg_sl ([.ref t, .int kk])).length) Slot.unset).toArray = ls at hl ⊢
  have hl : lv_has ls 4 [(0, .ref t), (1, .int kk)] := hl
  have hP : va_P D vwCl [(t, .inr (5, [.ref t_weights, .ref t_kindOf, .ref t_light, .ref t_heavy, .ref t_seenBy, .ref t_seenCut, .ref t_seenFound, .int 2, .int 0, .int 0, .int 0, .int 0, .int 2, .int 0, .int 0]))] s.heap := hP
  refine lv_iconst (v := 0) hx hb dX6_justTo_0 (by decide) ?_
  refine lv_istore_n (lv' := [(2, .int 0), (0, .ref t), (1, .int kk)]) hx hb dX6_justTo_1 rfl hl (by decide) rfl (fun ls hl => ?_)
  refine lv_iconst (v := 0) hx hb dX6_justTo_2 (by decide) ?_
  refine lv_istore_n (lv' := [(3, .int 0), (2, .int 0), (0, .ref t), (1, .int kk)]) hx hb dX6_justTo_3 rfl hl (by decide) rfl (fun ls hl => ?_)
  refine lv_iload_n hx hb dX6_justTo_4 rfl (lv_at hl 0 rfl) ?_
  refine lv_aload_n hx hb dX6_justTo_5 rfl (lv_at hl 2 rfl) ?_
  refine va_get (D := D) (ci := 5) (v := .int 0) (C := RX6) (T := TX6) (N := 15) hx hb hts hiX6 hown hK hP 0 rfl rfl 8 (by decide) fl40 (fun _ h9 => h9) rfl dX6_justTo_6 ?_
  refine lv_icmp_ge (tgt := 33) hx hb dX6_justTo_9 (by decide) (fun c_1 => ?_) (fun c_1 => absurd c_1 (by decide))
  refine lv_iload_n hx hb dX6_justTo_33 rfl (lv_at hl 1 rfl) ?_
  exact hs_iret hx hb hr hlocks hK hP hD hS () [0] rfl (by decide) dX6_justTo_34 (rfl)

set_option maxHeartbeats 4000000 in
set_option maxRecDepth 100000 in
theorem c_justInAll0 (l : Launch) (D : va_G) (k : Nat → ClassId) (sz : Nat) (t : Nat) (t_weights : Nat) (t_kindOf : Nat) (t_light : Nat) (t_heavy : Nat) (t_seenBy : Nat) (t_seenCut : Nat) (t_seenFound : Nat)  : MI l yX6_justInAll wsX6_justInAll ({ frames := 0, cells := 0, slots := 0, locals := 0 }) D k [.ref t] [(t, .inr (5, [.ref t_weights, .ref t_kindOf, .ref t_light, .ref t_heavy, .ref t_seenBy, .ref t_seenCut, .ref t_seenFound, .int 2, .int 0, .int 0, .int 0, .int 0, .int 2, .int 0, .int 0]))] sz (fun (r : Int32) (u : Unit) => r = 0) (fun (u : Unit) => [(t, .inr (5, [.ref t_weights, .ref t_kindOf, .ref t_light, .ref t_heavy, .ref t_seenBy, .ref t_seenCut, .ref t_seenFound, .int 2, .int 0, .int 0, .int 0, .int 0, .int 2, .int 0, .int 0]))]) := by
  refine Met.ofW (cc := cX6_justInAll) (maxL := 5) (ret := (some .int)) (by decide) rfl ?_
  intro p e s m args below meth c s₁ B hml hv
  obtain ⟨rfl, hsz, hP, hK, hD0, hN⟩ := hv
  have hx := B.exec
  have hb := B.bytes
  have hr := B.returns
  have hlocks := B.notSynchronized
  have hts := atoms_spec (ws := wsX6_justInAll) B.pre
  have hown : s.vm.findClass RX6 = some m.cls := findClass_of_methodNamed B.named
  have hiX6 : ∀ w ∈ u_ws RX6 TX6 15, w ∈ wsX6_justInAll := by decide +kernel
  have fl40 := hts (.fieldLink RX6 40 "HalfScales$Thing" "peopleCount" "I") (by decide +kernel)
  subst hsz
  have hD := hD0.self (sz := s.heap.size)
  generalize hAe : va_A [(t, .inr (5, [.ref t_weights, .ref t_kindOf, .ref t_light, .ref t_heavy, .ref t_seenBy, .ref t_seenCut, .ref t_seenFound, .int 2, .int 0, .int 0, .int 0, .int 0, .int 2, .int 0, .int 0]))] s.heap.size = A at hD ⊢
  have hA : ∀ q : Nat, s.heap.size ≤ q → A q := fun q h => by rw [← hAe]; exact Or.inr h
  have hS : va_S A s.heap s.heap [] := va_S.rf
  have hl := lv_entry ([.ref t]) (n := 5) (Nat.le_of_ble_eq_true rfl)
  rw [lg_entry_eq]
  generalize (lg_sl ([.ref t]) ++ List.replicate (5 - (lg_sl ([.ref t])).length) Slot.unset).toArray = ls at hl ⊢
  have hl : lv_has ls 5 [(0, .ref t)] := hl
  have hP : va_P D vwCl [(t, .inr (5, [.ref t_weights, .ref t_kindOf, .ref t_light, .ref t_heavy, .ref t_seenBy, .ref t_seenCut, .ref t_seenFound, .int 2, .int 0, .int 0, .int 0, .int 0, .int 2, .int 0, .int 0]))] s.heap := hP
  refine lv_iconst (v := 0) hx hb dX6_justInAll_0 (by decide) ?_
  refine lv_istore_n (lv' := [(1, .int 0), (0, .ref t)]) hx hb dX6_justInAll_1 rfl hl (by decide) rfl (fun ls hl => ?_)
  refine lv_iconst (v := 0) hx hb dX6_justInAll_2 (by decide) ?_
  refine lv_istore_n (lv' := [(2, .int 0), (1, .int 0), (0, .ref t)]) hx hb dX6_justInAll_3 rfl hl (by decide) rfl (fun ls hl => ?_)
  refine lv_iload_n hx hb dX6_justInAll_4 rfl (lv_at hl 0 rfl) ?_
  refine lv_aload_n hx hb dX6_justInAll_5 rfl (lv_at hl 2 rfl) ?_
  refine va_get (D := D) (ci := 5) (v := .int 0) (C := RX6) (T := TX6) (N := 15) hx hb hts hiX6 hown hK hP 0 rfl rfl 8 (by decide) fl40 (fun _ h9 => h9) rfl dX6_justInAll_6 ?_
  refine lv_icmp_ge (tgt := 75) hx hb dX6_justInAll_9 (by decide) (fun c_1 => ?_) (fun c_1 => absurd c_1 (by decide))
  refine lv_iload_n hx hb dX6_justInAll_75 rfl (lv_at hl 1 rfl) ?_
  exact hs_iret hx hb hr hlocks hK hP hD hS () [0] rfl (by decide) dX6_justInAll_76 (rfl)

set_option maxHeartbeats 4000000 in
set_option maxRecDepth 100000 in
theorem c_isAsSeen0 (l : Launch) (D : va_G) (k : Nat → ClassId) (sz : Nat) (t : Nat) (t_weights : Nat) (t_kindOf : Nat) (t_light : Nat) (t_heavy : Nat) (t_seenBy : Nat) (t_seenCut : Nat) (t_seenFound : Nat)  : MI l yX6_isAsSeen wsX6_isAsSeen ({ frames := 0, cells := 0, slots := 0, locals := 0 }) D k [.ref t] [(t, .inr (5, [.ref t_weights, .ref t_kindOf, .ref t_light, .ref t_heavy, .ref t_seenBy, .ref t_seenCut, .ref t_seenFound, .int 2, .int 0, .int 0, .int 0, .int 0, .int 2, .int 0, .int 0]))] sz (fun (r : Int32) (u : Unit) => r = 1) (fun (u : Unit) => [(t, .inr (5, [.ref t_weights, .ref t_kindOf, .ref t_light, .ref t_heavy, .ref t_seenBy, .ref t_seenCut, .ref t_seenFound, .int 2, .int 0, .int 0, .int 0, .int 0, .int 2, .int 0, .int 0]))]) := by
  refine Met.ofW (cc := cX6_isAsSeen) (maxL := 2) (ret := (some .boolean)) (by decide) rfl ?_
  intro p e s m args below meth c s₁ B hml hv
  obtain ⟨rfl, hsz, hP, hK, hD0, hN⟩ := hv
  have hx := B.exec
  have hb := B.bytes
  have hr := B.returns
  have hlocks := B.notSynchronized
  have hts := atoms_spec (ws := wsX6_isAsSeen) B.pre
  have hown : s.vm.findClass RX6 = some m.cls := findClass_of_methodNamed B.named
  have hiX6 : ∀ w ∈ u_ws RX6 TX6 15, w ∈ wsX6_isAsSeen := by decide +kernel
  have fl58 := hts (.fieldLink RX6 58 "HalfScales$Thing" "seenCount" "I") (by decide +kernel)
  subst hsz
  have hD := hD0.self (sz := s.heap.size)
  generalize hAe : va_A [(t, .inr (5, [.ref t_weights, .ref t_kindOf, .ref t_light, .ref t_heavy, .ref t_seenBy, .ref t_seenCut, .ref t_seenFound, .int 2, .int 0, .int 0, .int 0, .int 0, .int 2, .int 0, .int 0]))] s.heap.size = A at hD ⊢
  have hA : ∀ q : Nat, s.heap.size ≤ q → A q := fun q h => by rw [← hAe]; exact Or.inr h
  have hS : va_S A s.heap s.heap [] := va_S.rf
  have hl := lv_entry ([.ref t]) (n := 2) (Nat.le_of_ble_eq_true rfl)
  rw [lg_entry_eq]
  generalize (lg_sl ([.ref t]) ++ List.replicate (2 - (lg_sl ([.ref t])).length) Slot.unset).toArray = ls at hl ⊢
  have hl : lv_has ls 2 [(0, .ref t)] := hl
  have hP : va_P D vwCl [(t, .inr (5, [.ref t_weights, .ref t_kindOf, .ref t_light, .ref t_heavy, .ref t_seenBy, .ref t_seenCut, .ref t_seenFound, .int 2, .int 0, .int 0, .int 0, .int 0, .int 2, .int 0, .int 0]))] s.heap := hP
  refine lv_iconst (v := 0) hx hb dX6_isAsSeen_0 (by decide) ?_
  refine lv_istore_n (lv' := [(1, .int 0), (0, .ref t)]) hx hb dX6_isAsSeen_1 rfl hl (by decide) rfl (fun ls hl => ?_)
  refine lv_iload_n hx hb dX6_isAsSeen_2 rfl (lv_at hl 0 rfl) ?_
  refine lv_aload_n hx hb dX6_isAsSeen_3 rfl (lv_at hl 1 rfl) ?_
  refine va_get (D := D) (ci := 5) (v := .int 0) (C := RX6) (T := TX6) (N := 15) hx hb hts hiX6 hown hK hP 0 rfl rfl 14 (by decide) fl58 (fun _ h9 => h9) rfl dX6_isAsSeen_4 ?_
  refine lv_icmp_ge (tgt := 56) hx hb dX6_isAsSeen_7 (by decide) (fun c_1 => ?_) (fun c_1 => absurd c_1 (by decide))
  refine lv_iconst (v := 1) hx hb dX6_isAsSeen_56 (by decide) ?_
  exact hs_zret hx hb hr hlocks hK hP hD hS () [0] rfl (by decide) dX6_isAsSeen_57 rfl (rfl)

set_option maxHeartbeats 4000000 in
set_option maxRecDepth 100000 in
theorem c_begin (l : Launch) (D : va_G) (k : Nat → ClassId) (sz : Nat) (t : Nat) (t_weights : Nat) (t_kindOf : Nat) (t_light : Nat) (t_heavy : Nat) (t_seenBy : Nat) (t_seenCut : Nat) (t_seenFound : Nat) (t_cellCount : Int32) (t_peopleCount : Int32) (t_slip : Int32) (t_fine : Int32) (t_appealCount : Int32) (t_halfCount : Int32) (t_pairCount : Int32) (t_seenCount : Int32) (w : Nat → Int32)  : MV l yX6_begin wsX6_begin ({ frames := 0, cells := 0, slots := 0, locals := 0 }) D k [.ref t] [(t, .inr (5, [.ref t_weights, .ref t_kindOf, .ref t_light, .ref t_heavy, .ref t_seenBy, .ref t_seenCut, .ref t_seenFound, .int t_cellCount, .int t_peopleCount, .int t_slip, .int t_fine, .int t_appealCount, .int t_halfCount, .int t_pairCount, .int t_seenCount])), (t_weights, .inl (k 0, 8, .inl (w)))] sz (fun (u : Unit) => True) (fun (u : Unit) => [(t, .inr (5, [.ref t_weights, .ref t_kindOf, .ref t_light, .ref t_heavy, .ref t_seenBy, .ref t_seenCut, .ref t_seenFound, .int 2, .int 0, .int 0, .int 0, .int 0, .int 2, .int 0, .int 0])), (t_weights, .inl (k 0, 8, .inl (upd (upd w 0 1) 1 1)))]) := by
  refine Met.ofW (cc := cX6_begin) (maxL := 1) (ret := none) (by decide) rfl ?_
  intro p e s m args below meth c s₁ B hml hv
  obtain ⟨rfl, hsz, hP, hK, hD0, hN⟩ := hv
  have hx := B.exec
  have hb := B.bytes
  have hr := B.returns
  have hlocks := B.notSynchronized
  have hts := atoms_spec (ws := wsX6_begin) B.pre
  have hown : s.vm.findClass RX6 = some m.cls := findClass_of_methodNamed B.named
  have hiX6 : ∀ w ∈ u_ws RX6 TX6 15, w ∈ wsX6_begin := by decide +kernel
  have fl9 := hts (.fieldLink RX6 9 "HalfScales$Thing" "weights" "[I") (by decide +kernel)
  have fl36 := hts (.fieldLink RX6 36 "HalfScales$Thing" "cellCount" "I") (by decide +kernel)
  have fl40 := hts (.fieldLink RX6 40 "HalfScales$Thing" "peopleCount" "I") (by decide +kernel)
  have fl43 := hts (.fieldLink RX6 43 "HalfScales$Thing" "slip" "I") (by decide +kernel)
  have fl46 := hts (.fieldLink RX6 46 "HalfScales$Thing" "fine" "I") (by decide +kernel)
  have fl49 := hts (.fieldLink RX6 49 "HalfScales$Thing" "appealCount" "I") (by decide +kernel)
  have fl52 := hts (.fieldLink RX6 52 "HalfScales$Thing" "halfCount" "I") (by decide +kernel)
  have fl55 := hts (.fieldLink RX6 55 "HalfScales$Thing" "pairCount" "I") (by decide +kernel)
  have fl58 := hts (.fieldLink RX6 58 "HalfScales$Thing" "seenCount" "I") (by decide +kernel)
  subst hsz
  have hD := hD0.self (sz := s.heap.size)
  generalize hAe : va_A [(t, .inr (5, [.ref t_weights, .ref t_kindOf, .ref t_light, .ref t_heavy, .ref t_seenBy, .ref t_seenCut, .ref t_seenFound, .int t_cellCount, .int t_peopleCount, .int t_slip, .int t_fine, .int t_appealCount, .int t_halfCount, .int t_pairCount, .int t_seenCount])), (t_weights, .inl (k 0, 8, .inl (w)))] s.heap.size = A at hD ⊢
  have hA : ∀ q : Nat, s.heap.size ≤ q → A q := fun q h => by rw [← hAe]; exact Or.inr h
  have hS : va_S A s.heap s.heap [] := va_S.rf
  have hl := lv_entry ([.ref t]) (n := 1) (Nat.le_of_ble_eq_true rfl)
  rw [lg_entry_eq]
  generalize (lg_sl ([.ref t]) ++ List.replicate (1 - (lg_sl ([.ref t])).length) Slot.unset).toArray = ls at hl ⊢
  have hl : lv_has ls 1 [(0, .ref t)] := hl
  have hP : va_P D vwCl [(t, .inr (5, [.ref t_weights, .ref t_kindOf, .ref t_light, .ref t_heavy, .ref t_seenBy, .ref t_seenCut, .ref t_seenFound, .int t_cellCount, .int t_peopleCount, .int t_slip, .int t_fine, .int t_appealCount, .int t_halfCount, .int t_pairCount, .int t_seenCount])), (t_weights, .inl (k 0, 8, .inl (w)))] s.heap := hP
  refine lv_aload_n hx hb dX6_begin_0 rfl (lv_at hl 0 rfl) ?_
  refine va_get (D := D) (ci := 5) (v := .ref t_weights) (C := RX6) (T := TX6) (N := 15) hx hb hts hiX6 hown hK hP 0 rfl rfl 0 (by decide) fl9 (fun _ h9 => h9) rfl dX6_begin_1 ?_
  refine lv_iconst (v := 0) hx hb dX6_begin_4 (by decide) ?_
  refine lv_iconst (v := 1) hx hb dX6_begin_5 (by decide) ?_
  refine va_iast hx hb hK hP hD hS 1 0 rfl rfl (hs_in (by decide)) dX6_begin_6 (fun H locs hP hD hS => ?_)
  have hP : va_P D vwCl [(t, .inr (5, [.ref t_weights, .ref t_kindOf, .ref t_light, .ref t_heavy, .ref t_seenBy, .ref t_seenCut, .ref t_seenFound, .int t_cellCount, .int t_peopleCount, .int t_slip, .int t_fine, .int t_appealCount, .int t_halfCount, .int t_pairCount, .int t_seenCount])), (t_weights, .inl (k 0, 8, .inl (upd w 0 1)))] H := hP
  have hD : va_D A [(t, .inr (5, [.ref t_weights, .ref t_kindOf, .ref t_light, .ref t_heavy, .ref t_seenBy, .ref t_seenCut, .ref t_seenFound, .int t_cellCount, .int t_peopleCount, .int t_slip, .int t_fine, .int t_appealCount, .int t_halfCount, .int t_pairCount, .int t_seenCount])), (t_weights, .inl (k 0, 8, .inl (upd w 0 1)))] := hD
  refine lv_aload_n hx hb dX6_begin_7 rfl (lv_at hl 0 rfl) ?_
  refine va_get (D := D) (ci := 5) (v := .ref t_weights) (C := RX6) (T := TX6) (N := 15) hx hb hts hiX6 hown hK hP 0 rfl rfl 0 (by decide) fl9 (fun _ h9 => h9) rfl dX6_begin_8 ?_
  refine lv_iconst (v := 1) hx hb dX6_begin_11 (by decide) ?_
  refine lv_iconst (v := 1) hx hb dX6_begin_12 (by decide) ?_
  refine va_iast hx hb hK hP hD hS 1 0 rfl rfl (hs_in (by decide)) dX6_begin_13 (fun H locs hP hD hS => ?_)
  have hP : va_P D vwCl [(t, .inr (5, [.ref t_weights, .ref t_kindOf, .ref t_light, .ref t_heavy, .ref t_seenBy, .ref t_seenCut, .ref t_seenFound, .int t_cellCount, .int t_peopleCount, .int t_slip, .int t_fine, .int t_appealCount, .int t_halfCount, .int t_pairCount, .int t_seenCount])), (t_weights, .inl (k 0, 8, .inl (upd (upd w 0 1) 1 1)))] H := hP
  have hD : va_D A [(t, .inr (5, [.ref t_weights, .ref t_kindOf, .ref t_light, .ref t_heavy, .ref t_seenBy, .ref t_seenCut, .ref t_seenFound, .int t_cellCount, .int t_peopleCount, .int t_slip, .int t_fine, .int t_appealCount, .int t_halfCount, .int t_pairCount, .int t_seenCount])), (t_weights, .inl (k 0, 8, .inl (upd (upd w 0 1) 1 1)))] := hD
  refine lv_aload_n hx hb dX6_begin_14 rfl (lv_at hl 0 rfl) ?_
  refine lv_iconst (v := 2) hx hb dX6_begin_15 (by decide) ?_
  refine va_put (D := D) (ci := 5) (v := .int 2) (ty := .int) (C := RX6) (T := TX6) (N := 15) hx hb hts hiX6 tyX6 tyX6_ok nmX6 hown hK hP hD hS 0 rfl rfl 7 (by decide) fl36 (fun _ h9 => h9) rfl (by decide +kernel) rfl rfl (Nat.le_of_ble_eq_true rfl) dX6_begin_16 (fun H locs hP hD hS => ?_)
  have hP : va_P D vwCl [(t, .inr (5, [.ref t_weights, .ref t_kindOf, .ref t_light, .ref t_heavy, .ref t_seenBy, .ref t_seenCut, .ref t_seenFound, .int 2, .int t_peopleCount, .int t_slip, .int t_fine, .int t_appealCount, .int t_halfCount, .int t_pairCount, .int t_seenCount])), (t_weights, .inl (k 0, 8, .inl (upd (upd w 0 1) 1 1)))] H := hP
  have hD : va_D A [(t, .inr (5, [.ref t_weights, .ref t_kindOf, .ref t_light, .ref t_heavy, .ref t_seenBy, .ref t_seenCut, .ref t_seenFound, .int 2, .int t_peopleCount, .int t_slip, .int t_fine, .int t_appealCount, .int t_halfCount, .int t_pairCount, .int t_seenCount])), (t_weights, .inl (k 0, 8, .inl (upd (upd w 0 1) 1 1)))] := hD
  refine lv_aload_n hx hb dX6_begin_19 rfl (lv_at hl 0 rfl) ?_
  refine lv_iconst (v := 0) hx hb dX6_begin_20 (by decide) ?_
  refine va_put (D := D) (ci := 5) (v := .int 0) (ty := .int) (C := RX6) (T := TX6) (N := 15) hx hb hts hiX6 tyX6 tyX6_ok nmX6 hown hK hP hD hS 0 rfl rfl 8 (by decide) fl40 (fun _ h9 => h9) rfl (by decide +kernel) rfl rfl (Nat.le_of_ble_eq_true rfl) dX6_begin_21 (fun H locs hP hD hS => ?_)
  have hP : va_P D vwCl [(t, .inr (5, [.ref t_weights, .ref t_kindOf, .ref t_light, .ref t_heavy, .ref t_seenBy, .ref t_seenCut, .ref t_seenFound, .int 2, .int 0, .int t_slip, .int t_fine, .int t_appealCount, .int t_halfCount, .int t_pairCount, .int t_seenCount])), (t_weights, .inl (k 0, 8, .inl (upd (upd w 0 1) 1 1)))] H := hP
  have hD : va_D A [(t, .inr (5, [.ref t_weights, .ref t_kindOf, .ref t_light, .ref t_heavy, .ref t_seenBy, .ref t_seenCut, .ref t_seenFound, .int 2, .int 0, .int t_slip, .int t_fine, .int t_appealCount, .int t_halfCount, .int t_pairCount, .int t_seenCount])), (t_weights, .inl (k 0, 8, .inl (upd (upd w 0 1) 1 1)))] := hD
  refine lv_aload_n hx hb dX6_begin_24 rfl (lv_at hl 0 rfl) ?_
  refine lv_iconst (v := 0) hx hb dX6_begin_25 (by decide) ?_
  refine va_put (D := D) (ci := 5) (v := .int 0) (ty := .int) (C := RX6) (T := TX6) (N := 15) hx hb hts hiX6 tyX6 tyX6_ok nmX6 hown hK hP hD hS 0 rfl rfl 9 (by decide) fl43 (fun _ h9 => h9) rfl (by decide +kernel) rfl rfl (Nat.le_of_ble_eq_true rfl) dX6_begin_26 (fun H locs hP hD hS => ?_)
  have hP : va_P D vwCl [(t, .inr (5, [.ref t_weights, .ref t_kindOf, .ref t_light, .ref t_heavy, .ref t_seenBy, .ref t_seenCut, .ref t_seenFound, .int 2, .int 0, .int 0, .int t_fine, .int t_appealCount, .int t_halfCount, .int t_pairCount, .int t_seenCount])), (t_weights, .inl (k 0, 8, .inl (upd (upd w 0 1) 1 1)))] H := hP
  have hD : va_D A [(t, .inr (5, [.ref t_weights, .ref t_kindOf, .ref t_light, .ref t_heavy, .ref t_seenBy, .ref t_seenCut, .ref t_seenFound, .int 2, .int 0, .int 0, .int t_fine, .int t_appealCount, .int t_halfCount, .int t_pairCount, .int t_seenCount])), (t_weights, .inl (k 0, 8, .inl (upd (upd w 0 1) 1 1)))] := hD
  refine lv_aload_n hx hb dX6_begin_29 rfl (lv_at hl 0 rfl) ?_
  refine lv_iconst (v := 0) hx hb dX6_begin_30 (by decide) ?_
  refine va_put (D := D) (ci := 5) (v := .int 0) (ty := .int) (C := RX6) (T := TX6) (N := 15) hx hb hts hiX6 tyX6 tyX6_ok nmX6 hown hK hP hD hS 0 rfl rfl 10 (by decide) fl46 (fun _ h9 => h9) rfl (by decide +kernel) rfl rfl (Nat.le_of_ble_eq_true rfl) dX6_begin_31 (fun H locs hP hD hS => ?_)
  have hP : va_P D vwCl [(t, .inr (5, [.ref t_weights, .ref t_kindOf, .ref t_light, .ref t_heavy, .ref t_seenBy, .ref t_seenCut, .ref t_seenFound, .int 2, .int 0, .int 0, .int 0, .int t_appealCount, .int t_halfCount, .int t_pairCount, .int t_seenCount])), (t_weights, .inl (k 0, 8, .inl (upd (upd w 0 1) 1 1)))] H := hP
  have hD : va_D A [(t, .inr (5, [.ref t_weights, .ref t_kindOf, .ref t_light, .ref t_heavy, .ref t_seenBy, .ref t_seenCut, .ref t_seenFound, .int 2, .int 0, .int 0, .int 0, .int t_appealCount, .int t_halfCount, .int t_pairCount, .int t_seenCount])), (t_weights, .inl (k 0, 8, .inl (upd (upd w 0 1) 1 1)))] := hD
  refine lv_aload_n hx hb dX6_begin_34 rfl (lv_at hl 0 rfl) ?_
  refine lv_iconst (v := 0) hx hb dX6_begin_35 (by decide) ?_
  refine va_put (D := D) (ci := 5) (v := .int 0) (ty := .int) (C := RX6) (T := TX6) (N := 15) hx hb hts hiX6 tyX6 tyX6_ok nmX6 hown hK hP hD hS 0 rfl rfl 11 (by decide) fl49 (fun _ h9 => h9) rfl (by decide +kernel) rfl rfl (Nat.le_of_ble_eq_true rfl) dX6_begin_36 (fun H locs hP hD hS => ?_)
  have hP : va_P D vwCl [(t, .inr (5, [.ref t_weights, .ref t_kindOf, .ref t_light, .ref t_heavy, .ref t_seenBy, .ref t_seenCut, .ref t_seenFound, .int 2, .int 0, .int 0, .int 0, .int 0, .int t_halfCount, .int t_pairCount, .int t_seenCount])), (t_weights, .inl (k 0, 8, .inl (upd (upd w 0 1) 1 1)))] H := hP
  have hD : va_D A [(t, .inr (5, [.ref t_weights, .ref t_kindOf, .ref t_light, .ref t_heavy, .ref t_seenBy, .ref t_seenCut, .ref t_seenFound, .int 2, .int 0, .int 0, .int 0, .int 0, .int t_halfCount, .int t_pairCount, .int t_seenCount])), (t_weights, .inl (k 0, 8, .inl (upd (upd w 0 1) 1 1)))] := hD
  refine lv_aload_n hx hb dX6_begin_39 rfl (lv_at hl 0 rfl) ?_
  refine lv_iconst (v := 2) hx hb dX6_begin_40 (by decide) ?_
  refine va_put (D := D) (ci := 5) (v := .int 2) (ty := .int) (C := RX6) (T := TX6) (N := 15) hx hb hts hiX6 tyX6 tyX6_ok nmX6 hown hK hP hD hS 0 rfl rfl 12 (by decide) fl52 (fun _ h9 => h9) rfl (by decide +kernel) rfl rfl (Nat.le_of_ble_eq_true rfl) dX6_begin_41 (fun H locs hP hD hS => ?_)
  have hP : va_P D vwCl [(t, .inr (5, [.ref t_weights, .ref t_kindOf, .ref t_light, .ref t_heavy, .ref t_seenBy, .ref t_seenCut, .ref t_seenFound, .int 2, .int 0, .int 0, .int 0, .int 0, .int 2, .int t_pairCount, .int t_seenCount])), (t_weights, .inl (k 0, 8, .inl (upd (upd w 0 1) 1 1)))] H := hP
  have hD : va_D A [(t, .inr (5, [.ref t_weights, .ref t_kindOf, .ref t_light, .ref t_heavy, .ref t_seenBy, .ref t_seenCut, .ref t_seenFound, .int 2, .int 0, .int 0, .int 0, .int 0, .int 2, .int t_pairCount, .int t_seenCount])), (t_weights, .inl (k 0, 8, .inl (upd (upd w 0 1) 1 1)))] := hD
  refine lv_aload_n hx hb dX6_begin_44 rfl (lv_at hl 0 rfl) ?_
  refine lv_iconst (v := 0) hx hb dX6_begin_45 (by decide) ?_
  refine va_put (D := D) (ci := 5) (v := .int 0) (ty := .int) (C := RX6) (T := TX6) (N := 15) hx hb hts hiX6 tyX6 tyX6_ok nmX6 hown hK hP hD hS 0 rfl rfl 13 (by decide) fl55 (fun _ h9 => h9) rfl (by decide +kernel) rfl rfl (Nat.le_of_ble_eq_true rfl) dX6_begin_46 (fun H locs hP hD hS => ?_)
  have hP : va_P D vwCl [(t, .inr (5, [.ref t_weights, .ref t_kindOf, .ref t_light, .ref t_heavy, .ref t_seenBy, .ref t_seenCut, .ref t_seenFound, .int 2, .int 0, .int 0, .int 0, .int 0, .int 2, .int 0, .int t_seenCount])), (t_weights, .inl (k 0, 8, .inl (upd (upd w 0 1) 1 1)))] H := hP
  have hD : va_D A [(t, .inr (5, [.ref t_weights, .ref t_kindOf, .ref t_light, .ref t_heavy, .ref t_seenBy, .ref t_seenCut, .ref t_seenFound, .int 2, .int 0, .int 0, .int 0, .int 0, .int 2, .int 0, .int t_seenCount])), (t_weights, .inl (k 0, 8, .inl (upd (upd w 0 1) 1 1)))] := hD
  refine lv_aload_n hx hb dX6_begin_49 rfl (lv_at hl 0 rfl) ?_
  refine lv_iconst (v := 0) hx hb dX6_begin_50 (by decide) ?_
  refine va_put (D := D) (ci := 5) (v := .int 0) (ty := .int) (C := RX6) (T := TX6) (N := 15) hx hb hts hiX6 tyX6 tyX6_ok nmX6 hown hK hP hD hS 0 rfl rfl 14 (by decide) fl58 (fun _ h9 => h9) rfl (by decide +kernel) rfl rfl (Nat.le_of_ble_eq_true rfl) dX6_begin_51 (fun H locs hP hD hS => ?_)
  have hP : va_P D vwCl [(t, .inr (5, [.ref t_weights, .ref t_kindOf, .ref t_light, .ref t_heavy, .ref t_seenBy, .ref t_seenCut, .ref t_seenFound, .int 2, .int 0, .int 0, .int 0, .int 0, .int 2, .int 0, .int 0])), (t_weights, .inl (k 0, 8, .inl (upd (upd w 0 1) 1 1)))] H := hP
  have hD : va_D A [(t, .inr (5, [.ref t_weights, .ref t_kindOf, .ref t_light, .ref t_heavy, .ref t_seenBy, .ref t_seenCut, .ref t_seenFound, .int 2, .int 0, .int 0, .int 0, .int 0, .int 2, .int 0, .int 0])), (t_weights, .inl (k 0, 8, .inl (upd (upd w 0 1) 1 1)))] := hD
  exact hs_vret hx hb hr hlocks hK hP hD hS () [0, 1] rfl (by decide) dX6_begin_54 (trivial)

set_option maxHeartbeats 4000000 in
set_option maxRecDepth 100000 in
theorem c_splitCell_0 (l : Launch) (D : va_G) (k : Nat → ClassId) (sz : Nat) (t : Nat) (t_weights : Nat) (t_kindOf : Nat) (t_light : Nat) (t_heavy : Nat) (t_seenBy : Nat) (t_seenCut : Nat) (t_seenFound : Nat)  : MV l yX6_splitCell wsX6_splitCell ({ frames := 1, cells := 0, slots := 0, locals := 20 }) D k [.ref t, .int 0] [(t, .inr (5, [.ref t_weights, .ref t_kindOf, .ref t_light, .ref t_heavy, .ref t_seenBy, .ref t_seenCut, .ref t_seenFound, .int 2, .int 0, .int 0, .int 0, .int 0, .int 2, .int 0, .int 0])), (t_weights, .inl (k 0, 8, .inl (hsw)))] sz (fun (u : Unit) => True) (fun (u : Unit) => [(t, .inr (5, [.ref t_weights, .ref t_kindOf, .ref t_light, .ref t_heavy, .ref t_seenBy, .ref t_seenCut, .ref t_seenFound, .int 3, .int 0, .int 0, .int 0, .int 0, .int 2, .int 0, .int 0])), (t_weights, .inl (k 0, 8, .inl (upd (upd (upd hsw 2 1) 0 1) 1 0)))]) := by
  refine Met.ofW (cc := cX6_splitCell) (maxL := 3) (ret := none) (by decide) rfl ?_
  intro p e s m args below meth c s₁ B hml hv
  obtain ⟨rfl, hsz, hP, hK, hD0, hN⟩ := hv
  have hx := B.exec
  have hb := B.bytes
  have hr := B.returns
  have hlocks := B.notSynchronized
  have hts := atoms_spec (ws := wsX6_splitCell) B.pre
  have hown : s.vm.findClass RX6 = some m.cls := findClass_of_methodNamed B.named
  have hiX6 : ∀ w ∈ u_ws RX6 TX6 15, w ∈ wsX6_splitCell := by decide +kernel
  have fl36 := hts (.fieldLink RX6 36 "HalfScales$Thing" "cellCount" "I") (by decide +kernel)
  have fl9 := hts (.fieldLink RX6 9 "HalfScales$Thing" "weights" "[I") (by decide +kernel)
  have iniX7 := hts (.initialized RX7) (by decide +kernel)
  have st_X7_halfUp := hts (.static yX7_halfUp) (by decide +kernel)
  subst hsz
  have hD := hD0.self (sz := s.heap.size)
  generalize hAe : va_A [(t, .inr (5, [.ref t_weights, .ref t_kindOf, .ref t_light, .ref t_heavy, .ref t_seenBy, .ref t_seenCut, .ref t_seenFound, .int 2, .int 0, .int 0, .int 0, .int 0, .int 2, .int 0, .int 0])), (t_weights, .inl (k 0, 8, .inl (hsw)))] s.heap.size = A at hD ⊢
  have hA : ∀ q : Nat, s.heap.size ≤ q → A q := fun q h => by rw [← hAe]; exact Or.inr h
  have hS : va_S A s.heap s.heap [] := va_S.rf
  have hl := lv_entry ([.ref t, .int 0]) (n := 3) (Nat.le_of_ble_eq_true rfl)
  rw [lg_entry_eq]
  generalize (lg_sl ([.ref t, .int 0]) ++ List.replicate (3 - (lg_sl ([.ref t, .int 0])).length) Slot.unset).toArray = ls at hl ⊢
  have hl : lv_has ls 3 [(0, .ref t), (1, .int 0)] := hl
  have hP : va_P D vwCl [(t, .inr (5, [.ref t_weights, .ref t_kindOf, .ref t_light, .ref t_heavy, .ref t_seenBy, .ref t_seenCut, .ref t_seenFound, .int 2, .int 0, .int 0, .int 0, .int 0, .int 2, .int 0, .int 0])), (t_weights, .inl (k 0, 8, .inl (hsw)))] s.heap := hP
  refine lv_aload_n hx hb dX6_splitCell_0 rfl (lv_at hl 0 rfl) ?_
  refine va_get (D := D) (ci := 5) (v := .int 2) (C := RX6) (T := TX6) (N := 15) hx hb hts hiX6 hown hK hP 0 rfl rfl 7 (by decide) fl36 (fun _ h9 => h9) rfl dX6_splitCell_1 ?_
  refine lv_istore_n (lv' := [(2, .int 2), (0, .ref t), (1, .int 0)]) hx hb dX6_splitCell_4 rfl hl (by decide) rfl (fun ls hl => ?_)
  refine lv_iload_n hx hb dX6_splitCell_5 rfl (lv_at hl 0 rfl) ?_
  refine lv_iload_n hx hb dX6_splitCell_6 rfl (lv_at hl 2 rfl) ?_
  refine lv_iconst (v := 1) hx hb dX6_splitCell_7 (by decide) ?_
  refine lv_iadd hx hb dX6_splitCell_8 ?_
  refine hs_topi 1 (by first | rfl | decide +kernel) ?_
  refine lv_icmp_le (tgt := 32) hx hb dX6_splitCell_9 (by decide) (fun c_1 => absurd c_1 (by decide)) (fun c_1 => ?_)
  refine lv_aload_n hx hb dX6_splitCell_12 rfl (lv_at hl 1 rfl) ?_
  refine va_get (D := D) (ci := 5) (v := .ref t_weights) (C := RX6) (T := TX6) (N := 15) hx hb hts hiX6 hown hK hP 0 rfl rfl 0 (by decide) fl9 (fun _ h9 => h9) rfl dX6_splitCell_13 ?_
  refine lv_iload_n hx hb dX6_splitCell_16 rfl (lv_at hl 0 rfl) ?_
  refine lv_aload_n hx hb dX6_splitCell_17 rfl (lv_at hl 1 rfl) ?_
  refine va_get (D := D) (ci := 5) (v := .ref t_weights) (C := RX6) (T := TX6) (N := 15) hx hb hts hiX6 hown hK hP 0 rfl rfl 0 (by decide) fl9 (fun _ h9 => h9) rfl dX6_splitCell_18 ?_
  refine lv_iload_n hx hb dX6_splitCell_21 rfl (lv_at hl 0 rfl) ?_
  refine lv_iconst (v := 1) hx hb dX6_splitCell_22 (by decide) ?_
  refine lv_isub hx hb dX6_splitCell_23 ?_
  refine hs_topi 1 (by first | rfl | decide +kernel) ?_
  refine va_iald hx hb hK hP 1 0 rfl rfl (hs_in (by decide)) dX6_splitCell_24 ?_
  refine hs_topi 1 (by first | rfl | decide +kernel) ?_
  refine va_iast hx hb hK hP hD hS 1 0 rfl rfl (hs_in (by decide)) dX6_splitCell_25 (fun H locs hP hD hS => ?_)
  have hP : va_P D vwCl [(t, .inr (5, [.ref t_weights, .ref t_kindOf, .ref t_light, .ref t_heavy, .ref t_seenBy, .ref t_seenCut, .ref t_seenFound, .int 2, .int 0, .int 0, .int 0, .int 0, .int 2, .int 0, .int 0])), (t_weights, .inl (k 0, 8, .inl (upd hsw 2 1)))] H := hP
  have hD : va_D A [(t, .inr (5, [.ref t_weights, .ref t_kindOf, .ref t_light, .ref t_heavy, .ref t_seenBy, .ref t_seenCut, .ref t_seenFound, .int 2, .int 0, .int 0, .int 0, .int 0, .int 2, .int 0, .int 0])), (t_weights, .inl (k 0, 8, .inl (upd hsw 2 1)))] := hD
  refine lv_iinc (v := 1) (lv' := [(2, .int 1), (0, .ref t), (1, .int 0)]) hx hb dX6_splitCell_26 hl (k := 0) rfl (by decide) (by decide) rfl (fun ls hl => ?_)
  refine lv_goto (tgt := 5) hx hb dX6_splitCell_29 (by decide) ?_
  refine lv_iload_n hx hb dX6_splitCell_5 rfl (lv_at hl 0 rfl) ?_
  refine lv_iload_n hx hb dX6_splitCell_6 rfl (lv_at hl 2 rfl) ?_
  refine lv_iconst (v := 1) hx hb dX6_splitCell_7 (by decide) ?_
  refine lv_iadd hx hb dX6_splitCell_8 ?_
  refine hs_topi 1 (by first | rfl | decide +kernel) ?_
  refine lv_icmp_le (tgt := 32) hx hb dX6_splitCell_9 (by decide) (fun c_2 => ?_) (fun c_2 => absurd c_2 (by decide))
  refine lv_aload_n hx hb dX6_splitCell_32 rfl (lv_at hl 1 rfl) ?_
  refine va_get (D := D) (ci := 5) (v := .ref t_weights) (C := RX6) (T := TX6) (N := 15) hx hb hts hiX6 hown hK hP 0 rfl rfl 0 (by decide) fl9 (fun _ h9 => h9) rfl dX6_splitCell_33 ?_
  refine lv_iload_n hx hb dX6_splitCell_36 rfl (lv_at hl 2 rfl) ?_
  refine va_iald hx hb hK hP 1 0 rfl rfl (hs_in (by decide)) dX6_splitCell_37 ?_
  refine hs_topi 1 (by first | rfl | decide +kernel) ?_
  refine lv_istore_n (lv' := [(2, .int 1), (0, .ref t), (1, .int 0)]) hx hb dX6_splitCell_38 rfl hl (by decide) rfl (fun ls hl => ?_)
  refine lv_aload_n hx hb dX6_splitCell_39 rfl (lv_at hl 1 rfl) ?_
  refine va_get (D := D) (ci := 5) (v := .ref t_weights) (C := RX6) (T := TX6) (N := 15) hx hb hts hiX6 hown hK hP 0 rfl rfl 0 (by decide) fl9 (fun _ h9 => h9) rfl dX6_splitCell_40 ?_
  refine lv_iload_n hx hb dX6_splitCell_43 rfl (lv_at hl 2 rfl) ?_
  refine lv_iload_n hx hb dX6_splitCell_44 rfl (lv_at hl 0 rfl) ?_
  refine hs_pi (va_runSN (As := [.int 1]) (rest := [.int 0, .ref t_weights]) ⟨hx, hb, hml, hown, hts⟩ (c_halfUp l D k _ 1) ⟨(va_cnB 1 hts gX6_splitCell_X7_halfUp_n75 rfl rfl rfl hN.2.2.2.2.2.2.2.1 iniX7 (by decide +kernel) ⟨Nat.le_of_ble_eq_true rfl, Nat.le_of_ble_eq_true rfl⟩), st_X7_halfUp, trivial⟩ (hs_preS hK hN (hs_subP (w := []) hP [] rfl) (hD.sub (ws' := []) [] (by decide) rfl)) rfl rfl hl.1 rfl (lv_room (Nat.le_of_ble_eq_true rfl)) dX6_splitCell_45 ⟨Nat.le_of_ble_eq_true rfl, Nat.le_of_ble_eq_true rfl⟩) hP hD hS hA (fun r_3 u_5 H locs hw_4 hP hS => ?_)
  refine hs_topi 1 (hw_4.trans (by first | rfl | decide +kernel | rfl)) ?_
  refine va_iast hx hb hK hP hD hS 1 0 rfl rfl (hs_in (by decide)) dX6_splitCell_48 (fun H locs hP hD hS => ?_)
  have hP : va_P D vwCl [(t, .inr (5, [.ref t_weights, .ref t_kindOf, .ref t_light, .ref t_heavy, .ref t_seenBy, .ref t_seenCut, .ref t_seenFound, .int 2, .int 0, .int 0, .int 0, .int 0, .int 2, .int 0, .int 0])), (t_weights, .inl (k 0, 8, .inl (upd (upd hsw 2 1) 0 1)))] H := hP
  have hD : va_D A [(t, .inr (5, [.ref t_weights, .ref t_kindOf, .ref t_light, .ref t_heavy, .ref t_seenBy, .ref t_seenCut, .ref t_seenFound, .int 2, .int 0, .int 0, .int 0, .int 0, .int 2, .int 0, .int 0])), (t_weights, .inl (k 0, 8, .inl (upd (upd hsw 2 1) 0 1)))] := hD
  refine lv_aload_n hx hb dX6_splitCell_49 rfl (lv_at hl 1 rfl) ?_
  refine va_get (D := D) (ci := 5) (v := .ref t_weights) (C := RX6) (T := TX6) (N := 15) hx hb hts hiX6 hown hK hP 0 rfl rfl 0 (by decide) fl9 (fun _ h9 => h9) rfl dX6_splitCell_50 ?_
  refine lv_iload_n hx hb dX6_splitCell_53 rfl (lv_at hl 2 rfl) ?_
  refine lv_iconst (v := 1) hx hb dX6_splitCell_54 (by decide) ?_
  refine lv_iadd hx hb dX6_splitCell_55 ?_
  refine hs_topi 1 (by first | rfl | decide +kernel) ?_
  refine lv_iload_n hx hb dX6_splitCell_56 rfl (lv_at hl 0 rfl) ?_
  refine lv_aload_n hx hb dX6_splitCell_57 rfl (lv_at hl 1 rfl) ?_
  refine va_get (D := D) (ci := 5) (v := .ref t_weights) (C := RX6) (T := TX6) (N := 15) hx hb hts hiX6 hown hK hP 0 rfl rfl 0 (by decide) fl9 (fun _ h9 => h9) rfl dX6_splitCell_58 ?_
  refine lv_iload_n hx hb dX6_splitCell_61 rfl (lv_at hl 2 rfl) ?_
  refine va_iald hx hb hK hP 1 0 rfl rfl (hs_in (by decide)) dX6_splitCell_62 ?_
  refine hs_topi 1 (by first | rfl | decide +kernel) ?_
  refine lv_isub hx hb dX6_splitCell_63 ?_
  refine hs_topi 0 (by first | rfl | decide +kernel) ?_
  refine va_iast hx hb hK hP hD hS 1 0 rfl rfl (hs_in (by decide)) dX6_splitCell_64 (fun H locs hP hD hS => ?_)
  have hP : va_P D vwCl [(t, .inr (5, [.ref t_weights, .ref t_kindOf, .ref t_light, .ref t_heavy, .ref t_seenBy, .ref t_seenCut, .ref t_seenFound, .int 2, .int 0, .int 0, .int 0, .int 0, .int 2, .int 0, .int 0])), (t_weights, .inl (k 0, 8, .inl (upd (upd (upd hsw 2 1) 0 1) 1 0)))] H := hP
  have hD : va_D A [(t, .inr (5, [.ref t_weights, .ref t_kindOf, .ref t_light, .ref t_heavy, .ref t_seenBy, .ref t_seenCut, .ref t_seenFound, .int 2, .int 0, .int 0, .int 0, .int 0, .int 2, .int 0, .int 0])), (t_weights, .inl (k 0, 8, .inl (upd (upd (upd hsw 2 1) 0 1) 1 0)))] := hD
  refine lv_aload_n hx hb dX6_splitCell_65 rfl (lv_at hl 1 rfl) ?_
  refine lv_dup hx hb dX6_splitCell_66 rfl ?_
  refine va_get (D := D) (ci := 5) (v := .int 2) (C := RX6) (T := TX6) (N := 15) hx hb hts hiX6 hown hK hP 0 rfl rfl 7 (by decide) fl36 (fun _ h9 => h9) rfl dX6_splitCell_67 ?_
  refine lv_iconst (v := 1) hx hb dX6_splitCell_70 (by decide) ?_
  refine lv_iadd hx hb dX6_splitCell_71 ?_
  refine hs_topi 3 (by first | rfl | decide +kernel) ?_
  refine va_put (D := D) (ci := 5) (v := .int 3) (ty := .int) (C := RX6) (T := TX6) (N := 15) hx hb hts hiX6 tyX6 tyX6_ok nmX6 hown hK hP hD hS 0 rfl rfl 7 (by decide) fl36 (fun _ h9 => h9) rfl (by decide +kernel) rfl rfl (Nat.le_of_ble_eq_true rfl) dX6_splitCell_72 (fun H locs hP hD hS => ?_)
  have hP : va_P D vwCl [(t, .inr (5, [.ref t_weights, .ref t_kindOf, .ref t_light, .ref t_heavy, .ref t_seenBy, .ref t_seenCut, .ref t_seenFound, .int 3, .int 0, .int 0, .int 0, .int 0, .int 2, .int 0, .int 0])), (t_weights, .inl (k 0, 8, .inl (upd (upd (upd hsw 2 1) 0 1) 1 0)))] H := hP
  have hD : va_D A [(t, .inr (5, [.ref t_weights, .ref t_kindOf, .ref t_light, .ref t_heavy, .ref t_seenBy, .ref t_seenCut, .ref t_seenFound, .int 3, .int 0, .int 0, .int 0, .int 0, .int 2, .int 0, .int 0])), (t_weights, .inl (k 0, 8, .inl (upd (upd (upd hsw 2 1) 0 1) 1 0)))] := hD
  exact hs_vret hx hb hr hlocks hK hP hD hS () [0, 1] rfl (by decide) dX6_splitCell_75 (trivial)

set_option maxHeartbeats 4000000 in
set_option maxRecDepth 100000 in
theorem c_splitCell_1 (l : Launch) (D : va_G) (k : Nat → ClassId) (sz : Nat) (t : Nat) (t_weights : Nat) (t_kindOf : Nat) (t_light : Nat) (t_heavy : Nat) (t_seenBy : Nat) (t_seenCut : Nat) (t_seenFound : Nat)  : MV l yX6_splitCell wsX6_splitCell ({ frames := 1, cells := 0, slots := 0, locals := 20 }) D k [.ref t, .int 1] [(t, .inr (5, [.ref t_weights, .ref t_kindOf, .ref t_light, .ref t_heavy, .ref t_seenBy, .ref t_seenCut, .ref t_seenFound, .int 2, .int 0, .int 0, .int 0, .int 0, .int 2, .int 0, .int 0])), (t_weights, .inl (k 0, 8, .inl (hsw)))] sz (fun (u : Unit) => True) (fun (u : Unit) => [(t, .inr (5, [.ref t_weights, .ref t_kindOf, .ref t_light, .ref t_heavy, .ref t_seenBy, .ref t_seenCut, .ref t_seenFound, .int 3, .int 0, .int 0, .int 0, .int 0, .int 2, .int 0, .int 0])), (t_weights, .inl (k 0, 8, .inl (upd (upd hsw 1 1) 2 0)))]) := by
  refine Met.ofW (cc := cX6_splitCell) (maxL := 3) (ret := none) (by decide) rfl ?_
  intro p e s m args below meth c s₁ B hml hv
  obtain ⟨rfl, hsz, hP, hK, hD0, hN⟩ := hv
  have hx := B.exec
  have hb := B.bytes
  have hr := B.returns
  have hlocks := B.notSynchronized
  have hts := atoms_spec (ws := wsX6_splitCell) B.pre
  have hown : s.vm.findClass RX6 = some m.cls := findClass_of_methodNamed B.named
  have hiX6 : ∀ w ∈ u_ws RX6 TX6 15, w ∈ wsX6_splitCell := by decide +kernel
  have fl36 := hts (.fieldLink RX6 36 "HalfScales$Thing" "cellCount" "I") (by decide +kernel)
  have fl9 := hts (.fieldLink RX6 9 "HalfScales$Thing" "weights" "[I") (by decide +kernel)
  have iniX7 := hts (.initialized RX7) (by decide +kernel)
  have st_X7_halfUp := hts (.static yX7_halfUp) (by decide +kernel)
  subst hsz
  have hD := hD0.self (sz := s.heap.size)
  generalize hAe : va_A [(t, .inr (5, [.ref t_weights, .ref t_kindOf, .ref t_light, .ref t_heavy, .ref t_seenBy, .ref t_seenCut, .ref t_seenFound, .int 2, .int 0, .int 0, .int 0, .int 0, .int 2, .int 0, .int 0])), (t_weights, .inl (k 0, 8, .inl (hsw)))] s.heap.size = A at hD ⊢
  have hA : ∀ q : Nat, s.heap.size ≤ q → A q := fun q h => by rw [← hAe]; exact Or.inr h
  have hS : va_S A s.heap s.heap [] := va_S.rf
  have hl := lv_entry ([.ref t, .int 1]) (n := 3) (Nat.le_of_ble_eq_true rfl)
  rw [lg_entry_eq]
  generalize (lg_sl ([.ref t, .int 1]) ++ List.replicate (3 - (lg_sl ([.ref t, .int 1])).length) Slot.unset).toArray = ls at hl ⊢
  have hl : lv_has ls 3 [(0, .ref t), (1, .int 1)] := hl
  have hP : va_P D vwCl [(t, .inr (5, [.ref t_weights, .ref t_kindOf, .ref t_light, .ref t_heavy, .ref t_seenBy, .ref t_seenCut, .ref t_seenFound, .int 2, .int 0, .int 0, .int 0, .int 0, .int 2, .int 0, .int 0])), (t_weights, .inl (k 0, 8, .inl (hsw)))] s.heap := hP
  refine lv_aload_n hx hb dX6_splitCell_0 rfl (lv_at hl 0 rfl) ?_
  refine va_get (D := D) (ci := 5) (v := .int 2) (C := RX6) (T := TX6) (N := 15) hx hb hts hiX6 hown hK hP 0 rfl rfl 7 (by decide) fl36 (fun _ h9 => h9) rfl dX6_splitCell_1 ?_
  refine lv_istore_n (lv' := [(2, .int 2), (0, .ref t), (1, .int 1)]) hx hb dX6_splitCell_4 rfl hl (by decide) rfl (fun ls hl => ?_)
  refine lv_iload_n hx hb dX6_splitCell_5 rfl (lv_at hl 0 rfl) ?_
  refine lv_iload_n hx hb dX6_splitCell_6 rfl (lv_at hl 2 rfl) ?_
  refine lv_iconst (v := 1) hx hb dX6_splitCell_7 (by decide) ?_
  refine lv_iadd hx hb dX6_splitCell_8 ?_
  refine hs_topi 2 (by first | rfl | decide +kernel) ?_
  refine lv_icmp_le (tgt := 32) hx hb dX6_splitCell_9 (by decide) (fun c_1 => ?_) (fun c_1 => absurd c_1 (by decide))
  refine lv_aload_n hx hb dX6_splitCell_32 rfl (lv_at hl 1 rfl) ?_
  refine va_get (D := D) (ci := 5) (v := .ref t_weights) (C := RX6) (T := TX6) (N := 15) hx hb hts hiX6 hown hK hP 0 rfl rfl 0 (by decide) fl9 (fun _ h9 => h9) rfl dX6_splitCell_33 ?_
  refine lv_iload_n hx hb dX6_splitCell_36 rfl (lv_at hl 2 rfl) ?_
  refine va_iald hx hb hK hP 1 0 rfl rfl (hs_in (by decide)) dX6_splitCell_37 ?_
  refine hs_topi 1 (by first | rfl | decide +kernel) ?_
  refine lv_istore_n (lv' := [(2, .int 1), (0, .ref t), (1, .int 1)]) hx hb dX6_splitCell_38 rfl hl (by decide) rfl (fun ls hl => ?_)
  refine lv_aload_n hx hb dX6_splitCell_39 rfl (lv_at hl 1 rfl) ?_
  refine va_get (D := D) (ci := 5) (v := .ref t_weights) (C := RX6) (T := TX6) (N := 15) hx hb hts hiX6 hown hK hP 0 rfl rfl 0 (by decide) fl9 (fun _ h9 => h9) rfl dX6_splitCell_40 ?_
  refine lv_iload_n hx hb dX6_splitCell_43 rfl (lv_at hl 2 rfl) ?_
  refine lv_iload_n hx hb dX6_splitCell_44 rfl (lv_at hl 0 rfl) ?_
  refine hs_pi (va_runSN (As := [.int 1]) (rest := [.int 1, .ref t_weights]) ⟨hx, hb, hml, hown, hts⟩ (c_halfUp l D k _ 1) ⟨(va_cnB 1 hts gX6_splitCell_X7_halfUp_n75 rfl rfl rfl hN.2.2.2.2.2.2.2.1 iniX7 (by decide +kernel) ⟨Nat.le_of_ble_eq_true rfl, Nat.le_of_ble_eq_true rfl⟩), st_X7_halfUp, trivial⟩ (hs_preS hK hN (hs_subP (w := []) hP [] rfl) (hD.sub (ws' := []) [] (by decide) rfl)) rfl rfl hl.1 rfl (lv_room (Nat.le_of_ble_eq_true rfl)) dX6_splitCell_45 ⟨Nat.le_of_ble_eq_true rfl, Nat.le_of_ble_eq_true rfl⟩) hP hD hS hA (fun r_2 u_4 H locs hw_3 hP hS => ?_)
  refine hs_topi 1 (hw_3.trans (by first | rfl | decide +kernel | rfl)) ?_
  refine va_iast hx hb hK hP hD hS 1 0 rfl rfl (hs_in (by decide)) dX6_splitCell_48 (fun H locs hP hD hS => ?_)
  have hP : va_P D vwCl [(t, .inr (5, [.ref t_weights, .ref t_kindOf, .ref t_light, .ref t_heavy, .ref t_seenBy, .ref t_seenCut, .ref t_seenFound, .int 2, .int 0, .int 0, .int 0, .int 0, .int 2, .int 0, .int 0])), (t_weights, .inl (k 0, 8, .inl (upd hsw 1 1)))] H := hP
  have hD : va_D A [(t, .inr (5, [.ref t_weights, .ref t_kindOf, .ref t_light, .ref t_heavy, .ref t_seenBy, .ref t_seenCut, .ref t_seenFound, .int 2, .int 0, .int 0, .int 0, .int 0, .int 2, .int 0, .int 0])), (t_weights, .inl (k 0, 8, .inl (upd hsw 1 1)))] := hD
  refine lv_aload_n hx hb dX6_splitCell_49 rfl (lv_at hl 1 rfl) ?_
  refine va_get (D := D) (ci := 5) (v := .ref t_weights) (C := RX6) (T := TX6) (N := 15) hx hb hts hiX6 hown hK hP 0 rfl rfl 0 (by decide) fl9 (fun _ h9 => h9) rfl dX6_splitCell_50 ?_
  refine lv_iload_n hx hb dX6_splitCell_53 rfl (lv_at hl 2 rfl) ?_
  refine lv_iconst (v := 1) hx hb dX6_splitCell_54 (by decide) ?_
  refine lv_iadd hx hb dX6_splitCell_55 ?_
  refine hs_topi 2 (by first | rfl | decide +kernel) ?_
  refine lv_iload_n hx hb dX6_splitCell_56 rfl (lv_at hl 0 rfl) ?_
  refine lv_aload_n hx hb dX6_splitCell_57 rfl (lv_at hl 1 rfl) ?_
  refine va_get (D := D) (ci := 5) (v := .ref t_weights) (C := RX6) (T := TX6) (N := 15) hx hb hts hiX6 hown hK hP 0 rfl rfl 0 (by decide) fl9 (fun _ h9 => h9) rfl dX6_splitCell_58 ?_
  refine lv_iload_n hx hb dX6_splitCell_61 rfl (lv_at hl 2 rfl) ?_
  refine va_iald hx hb hK hP 1 0 rfl rfl (hs_in (by decide)) dX6_splitCell_62 ?_
  refine hs_topi 1 (by first | rfl | decide +kernel) ?_
  refine lv_isub hx hb dX6_splitCell_63 ?_
  refine hs_topi 0 (by first | rfl | decide +kernel) ?_
  refine va_iast hx hb hK hP hD hS 1 0 rfl rfl (hs_in (by decide)) dX6_splitCell_64 (fun H locs hP hD hS => ?_)
  have hP : va_P D vwCl [(t, .inr (5, [.ref t_weights, .ref t_kindOf, .ref t_light, .ref t_heavy, .ref t_seenBy, .ref t_seenCut, .ref t_seenFound, .int 2, .int 0, .int 0, .int 0, .int 0, .int 2, .int 0, .int 0])), (t_weights, .inl (k 0, 8, .inl (upd (upd hsw 1 1) 2 0)))] H := hP
  have hD : va_D A [(t, .inr (5, [.ref t_weights, .ref t_kindOf, .ref t_light, .ref t_heavy, .ref t_seenBy, .ref t_seenCut, .ref t_seenFound, .int 2, .int 0, .int 0, .int 0, .int 0, .int 2, .int 0, .int 0])), (t_weights, .inl (k 0, 8, .inl (upd (upd hsw 1 1) 2 0)))] := hD
  refine lv_aload_n hx hb dX6_splitCell_65 rfl (lv_at hl 1 rfl) ?_
  refine lv_dup hx hb dX6_splitCell_66 rfl ?_
  refine va_get (D := D) (ci := 5) (v := .int 2) (C := RX6) (T := TX6) (N := 15) hx hb hts hiX6 hown hK hP 0 rfl rfl 7 (by decide) fl36 (fun _ h9 => h9) rfl dX6_splitCell_67 ?_
  refine lv_iconst (v := 1) hx hb dX6_splitCell_70 (by decide) ?_
  refine lv_iadd hx hb dX6_splitCell_71 ?_
  refine hs_topi 3 (by first | rfl | decide +kernel) ?_
  refine va_put (D := D) (ci := 5) (v := .int 3) (ty := .int) (C := RX6) (T := TX6) (N := 15) hx hb hts hiX6 tyX6 tyX6_ok nmX6 hown hK hP hD hS 0 rfl rfl 7 (by decide) fl36 (fun _ h9 => h9) rfl (by decide +kernel) rfl rfl (Nat.le_of_ble_eq_true rfl) dX6_splitCell_72 (fun H locs hP hD hS => ?_)
  have hP : va_P D vwCl [(t, .inr (5, [.ref t_weights, .ref t_kindOf, .ref t_light, .ref t_heavy, .ref t_seenBy, .ref t_seenCut, .ref t_seenFound, .int 3, .int 0, .int 0, .int 0, .int 0, .int 2, .int 0, .int 0])), (t_weights, .inl (k 0, 8, .inl (upd (upd hsw 1 1) 2 0)))] H := hP
  have hD : va_D A [(t, .inr (5, [.ref t_weights, .ref t_kindOf, .ref t_light, .ref t_heavy, .ref t_seenBy, .ref t_seenCut, .ref t_seenFound, .int 3, .int 0, .int 0, .int 0, .int 0, .int 2, .int 0, .int 0])), (t_weights, .inl (k 0, 8, .inl (upd (upd hsw 1 1) 2 0)))] := hD
  exact hs_vret hx hb hr hlocks hK hP hD hS () [0, 1] rfl (by decide) dX6_splitCell_75 (trivial)

set_option maxHeartbeats 4000000 in
set_option maxRecDepth 100000 in
theorem c_addPair0 (l : Launch) (D : va_G) (k : Nat → ClassId) (sz : Nat) (t : Nat) (t_weights : Nat) (t_kindOf : Nat) (t_light : Nat) (t_heavy : Nat) (t_seenBy : Nat) (t_seenCut : Nat) (t_seenFound : Nat) (a : Int32) (b : Int32) (lf : Nat → Int32) (hf : Nat → Int32)  : MV l yX6_addPair wsX6_addPair ({ frames := 0, cells := 0, slots := 0, locals := 0 }) D k [.ref t, .int a, .int b] [(t, .inr (5, [.ref t_weights, .ref t_kindOf, .ref t_light, .ref t_heavy, .ref t_seenBy, .ref t_seenCut, .ref t_seenFound, .int 2, .int 0, .int 0, .int 0, .int 0, .int 2, .int 0, .int 0])), (t_light, .inl (k 0, 8, .inl (lf))), (t_heavy, .inl (k 0, 8, .inl (hf)))] sz (fun (u : Unit) => True) (fun (u : Unit) => [(t, .inr (5, [.ref t_weights, .ref t_kindOf, .ref t_light, .ref t_heavy, .ref t_seenBy, .ref t_seenCut, .ref t_seenFound, .int 2, .int 0, .int 0, .int 0, .int 0, .int 2, .int 1, .int 0])), (t_light, .inl (k 0, 8, .inl (upd lf 0 a))), (t_heavy, .inl (k 0, 8, .inl (upd hf 0 b)))]) := by
  refine Met.ofW (cc := cX6_addPair) (maxL := 3) (ret := none) (by decide) rfl ?_
  intro p e s m args below meth c s₁ B hml hv
  obtain ⟨rfl, hsz, hP, hK, hD0, hN⟩ := hv
  have hx := B.exec
  have hb := B.bytes
  have hr := B.returns
  have hlocks := B.notSynchronized
  have hts := atoms_spec (ws := wsX6_addPair) B.pre
  have hown : s.vm.findClass RX6 = some m.cls := findClass_of_methodNamed B.named
  have hiX6 : ∀ w ∈ u_ws RX6 TX6 15, w ∈ wsX6_addPair := by decide +kernel
  have fl18 := hts (.fieldLink RX6 18 "HalfScales$Thing" "light" "[I") (by decide +kernel)
  have fl55 := hts (.fieldLink RX6 55 "HalfScales$Thing" "pairCount" "I") (by decide +kernel)
  have fl21 := hts (.fieldLink RX6 21 "HalfScales$Thing" "heavy" "[I") (by decide +kernel)
  subst hsz
  have hD := hD0.self (sz := s.heap.size)
  generalize hAe : va_A [(t, .inr (5, [.ref t_weights, .ref t_kindOf, .ref t_light, .ref t_heavy, .ref t_seenBy, .ref t_seenCut, .ref t_seenFound, .int 2, .int 0, .int 0, .int 0, .int 0, .int 2, .int 0, .int 0])), (t_light, .inl (k 0, 8, .inl (lf))), (t_heavy, .inl (k 0, 8, .inl (hf)))] s.heap.size = A at hD ⊢
  have hA : ∀ q : Nat, s.heap.size ≤ q → A q := fun q h => by rw [← hAe]; exact Or.inr h
  have hS : va_S A s.heap s.heap [] := va_S.rf
  have hl := lv_entry ([.ref t, .int a, .int b]) (n := 3) (Nat.le_of_ble_eq_true rfl)
  rw [lg_entry_eq]
  generalize (lg_sl ([.ref t, .int a, .int b]) ++ List.replicate (3 - (lg_sl ([.ref t, .int a, .int b])).length) Slot.unset).toArray = ls at hl ⊢
  have hl : lv_has ls 3 [(0, .ref t), (1, .int a), (2, .int b)] := hl
  have hP : va_P D vwCl [(t, .inr (5, [.ref t_weights, .ref t_kindOf, .ref t_light, .ref t_heavy, .ref t_seenBy, .ref t_seenCut, .ref t_seenFound, .int 2, .int 0, .int 0, .int 0, .int 0, .int 2, .int 0, .int 0])), (t_light, .inl (k 0, 8, .inl (lf))), (t_heavy, .inl (k 0, 8, .inl (hf)))] s.heap := hP
  refine lv_aload_n hx hb dX6_addPair_0 rfl (lv_at hl 0 rfl) ?_
  refine va_get (D := D) (ci := 5) (v := .ref t_light) (C := RX6) (T := TX6) (N := 15) hx hb hts hiX6 hown hK hP 0 rfl rfl 2 (by decide) fl18 (fun _ h9 => h9) rfl dX6_addPair_1 ?_
  refine lv_aload_n hx hb dX6_addPair_4 rfl (lv_at hl 0 rfl) ?_
  refine va_get (D := D) (ci := 5) (v := .int 0) (C := RX6) (T := TX6) (N := 15) hx hb hts hiX6 hown hK hP 0 rfl rfl 13 (by decide) fl55 (fun _ h9 => h9) rfl dX6_addPair_5 ?_
  refine lv_iload_n hx hb dX6_addPair_8 rfl (lv_at hl 1 rfl) ?_
  refine va_iast hx hb hK hP hD hS 1 0 rfl rfl (hs_in (by decide)) dX6_addPair_9 (fun H locs hP hD hS => ?_)
  have hP : va_P D vwCl [(t, .inr (5, [.ref t_weights, .ref t_kindOf, .ref t_light, .ref t_heavy, .ref t_seenBy, .ref t_seenCut, .ref t_seenFound, .int 2, .int 0, .int 0, .int 0, .int 0, .int 2, .int 0, .int 0])), (t_light, .inl (k 0, 8, .inl (upd lf 0 a))), (t_heavy, .inl (k 0, 8, .inl (hf)))] H := hP
  have hD : va_D A [(t, .inr (5, [.ref t_weights, .ref t_kindOf, .ref t_light, .ref t_heavy, .ref t_seenBy, .ref t_seenCut, .ref t_seenFound, .int 2, .int 0, .int 0, .int 0, .int 0, .int 2, .int 0, .int 0])), (t_light, .inl (k 0, 8, .inl (upd lf 0 a))), (t_heavy, .inl (k 0, 8, .inl (hf)))] := hD
  refine lv_aload_n hx hb dX6_addPair_10 rfl (lv_at hl 0 rfl) ?_
  refine va_get (D := D) (ci := 5) (v := .ref t_heavy) (C := RX6) (T := TX6) (N := 15) hx hb hts hiX6 hown hK hP 0 rfl rfl 3 (by decide) fl21 (fun _ h9 => h9) rfl dX6_addPair_11 ?_
  refine lv_aload_n hx hb dX6_addPair_14 rfl (lv_at hl 0 rfl) ?_
  refine va_get (D := D) (ci := 5) (v := .int 0) (C := RX6) (T := TX6) (N := 15) hx hb hts hiX6 hown hK hP 0 rfl rfl 13 (by decide) fl55 (fun _ h9 => h9) rfl dX6_addPair_15 ?_
  refine lv_iload_n hx hb dX6_addPair_18 rfl (lv_at hl 2 rfl) ?_
  refine va_iast hx hb hK hP hD hS 2 0 rfl rfl (hs_in (by decide)) dX6_addPair_19 (fun H locs hP hD hS => ?_)
  have hP : va_P D vwCl [(t, .inr (5, [.ref t_weights, .ref t_kindOf, .ref t_light, .ref t_heavy, .ref t_seenBy, .ref t_seenCut, .ref t_seenFound, .int 2, .int 0, .int 0, .int 0, .int 0, .int 2, .int 0, .int 0])), (t_light, .inl (k 0, 8, .inl (upd lf 0 a))), (t_heavy, .inl (k 0, 8, .inl (upd hf 0 b)))] H := hP
  have hD : va_D A [(t, .inr (5, [.ref t_weights, .ref t_kindOf, .ref t_light, .ref t_heavy, .ref t_seenBy, .ref t_seenCut, .ref t_seenFound, .int 2, .int 0, .int 0, .int 0, .int 0, .int 2, .int 0, .int 0])), (t_light, .inl (k 0, 8, .inl (upd lf 0 a))), (t_heavy, .inl (k 0, 8, .inl (upd hf 0 b)))] := hD
  refine lv_aload_n hx hb dX6_addPair_20 rfl (lv_at hl 0 rfl) ?_
  refine lv_dup hx hb dX6_addPair_21 rfl ?_
  refine va_get (D := D) (ci := 5) (v := .int 0) (C := RX6) (T := TX6) (N := 15) hx hb hts hiX6 hown hK hP 0 rfl rfl 13 (by decide) fl55 (fun _ h9 => h9) rfl dX6_addPair_22 ?_
  refine lv_iconst (v := 1) hx hb dX6_addPair_25 (by decide) ?_
  refine lv_iadd hx hb dX6_addPair_26 ?_
  refine hs_topi 1 (by first | rfl | decide +kernel) ?_
  refine va_put (D := D) (ci := 5) (v := .int 1) (ty := .int) (C := RX6) (T := TX6) (N := 15) hx hb hts hiX6 tyX6 tyX6_ok nmX6 hown hK hP hD hS 0 rfl rfl 13 (by decide) fl55 (fun _ h9 => h9) rfl (by decide +kernel) rfl rfl (Nat.le_of_ble_eq_true rfl) dX6_addPair_27 (fun H locs hP hD hS => ?_)
  have hP : va_P D vwCl [(t, .inr (5, [.ref t_weights, .ref t_kindOf, .ref t_light, .ref t_heavy, .ref t_seenBy, .ref t_seenCut, .ref t_seenFound, .int 2, .int 0, .int 0, .int 0, .int 0, .int 2, .int 1, .int 0])), (t_light, .inl (k 0, 8, .inl (upd lf 0 a))), (t_heavy, .inl (k 0, 8, .inl (upd hf 0 b)))] H := hP
  have hD : va_D A [(t, .inr (5, [.ref t_weights, .ref t_kindOf, .ref t_light, .ref t_heavy, .ref t_seenBy, .ref t_seenCut, .ref t_seenFound, .int 2, .int 0, .int 0, .int 0, .int 0, .int 2, .int 1, .int 0])), (t_light, .inl (k 0, 8, .inl (upd lf 0 a))), (t_heavy, .inl (k 0, 8, .inl (upd hf 0 b)))] := hD
  exact hs_vret hx hb hr hlocks hK hP hD hS () [0, 1, 2] rfl (by decide) dX6_addPair_30 (trivial)

set_option maxHeartbeats 4000000 in
set_option maxRecDepth 100000 in
theorem c_copyFrom (l : Launch) (D : va_G) (k : Nat → ClassId) (sz : Nat) (t : Nat) (t_weights : Nat) (t_kindOf : Nat) (t_light : Nat) (t_heavy : Nat) (t_seenBy : Nat) (t_seenCut : Nat) (t_seenFound : Nat) (t_cellCount : Int32) (t_peopleCount : Int32) (t_slip : Int32) (t_fine : Int32) (t_appealCount : Int32) (t_halfCount : Int32) (t_pairCount : Int32) (t_seenCount : Int32) (o : Nat) (o_weights : Nat) (o_kindOf : Nat) (o_light : Nat) (o_heavy : Nat) (o_seenBy : Nat) (o_seenCut : Nat) (o_seenFound : Nat) (o_cellCount : Int32) (o_peopleCount : Int32) (o_slip : Int32) (o_fine : Int32) (o_appealCount : Int32) (o_halfCount : Int32) (o_pairCount : Int32) (o_seenCount : Int32) (f0 : Nat → Int32) (f1 : Nat → Int32) (f2 : Nat → Int32) (f3 : Nat → Int32) (f4 : Nat → Int32) (f5 : Nat → Int32) (f6 : Nat → Int32) (g0 : Nat → Int32) (g1 : Nat → Int32) (g2 : Nat → Int32) (g3 : Nat → Int32) (g4 : Nat → Int32) (g5 : Nat → Int32) (g6 : Nat → Int32)  : MV l yX6_copyFrom wsX6_copyFrom ({ frames := 1, cells := 0, slots := 0, locals := 60 }) D k [.ref t, .ref o] [(t, .inr (5, [.ref t_weights, .ref t_kindOf, .ref t_light, .ref t_heavy, .ref t_seenBy, .ref t_seenCut, .ref t_seenFound, .int t_cellCount, .int t_peopleCount, .int t_slip, .int t_fine, .int t_appealCount, .int t_halfCount, .int t_pairCount, .int t_seenCount])), (t_weights, .inl (k 0, 8, .inl (f0))), (t_kindOf, .inl (k 0, 4, .inl (f1))), (t_light, .inl (k 0, 8, .inl (f2))), (t_heavy, .inl (k 0, 8, .inl (f3))), (t_seenBy, .inl (k 0, 6, .inl (f4))), (t_seenCut, .inl (k 0, 6, .inl (f5))), (t_seenFound, .inl (k 0, 6, .inl (f6))), (o, .inr (5, [.ref o_weights, .ref o_kindOf, .ref o_light, .ref o_heavy, .ref o_seenBy, .ref o_seenCut, .ref o_seenFound, .int o_cellCount, .int o_peopleCount, .int o_slip, .int o_fine, .int o_appealCount, .int o_halfCount, .int o_pairCount, .int o_seenCount])), (o_weights, .inl (k 0, 8, .inl (g0))), (o_kindOf, .inl (k 0, 4, .inl (g1))), (o_light, .inl (k 0, 8, .inl (g2))), (o_heavy, .inl (k 0, 8, .inl (g3))), (o_seenBy, .inl (k 0, 6, .inl (g4))), (o_seenCut, .inl (k 0, 6, .inl (g5))), (o_seenFound, .inl (k 0, 6, .inl (g6)))] sz (fun (u : Unit) => True) (fun (u : Unit) => [(t, .inr (5, [.ref t_weights, .ref t_kindOf, .ref t_light, .ref t_heavy, .ref t_seenBy, .ref t_seenCut, .ref t_seenFound, .int o_cellCount, .int o_peopleCount, .int o_slip, .int o_fine, .int o_appealCount, .int o_halfCount, .int o_pairCount, .int o_seenCount])), (t_weights, .inl (k 0, 8, .inl (va_cpy g0 f0 0 0 8))), (t_kindOf, .inl (k 0, 4, .inl (va_cpy g1 f1 0 0 4))), (t_light, .inl (k 0, 8, .inl (va_cpy g2 f2 0 0 8))), (t_heavy, .inl (k 0, 8, .inl (va_cpy g3 f3 0 0 8))), (t_seenBy, .inl (k 0, 6, .inl (va_cpy g4 f4 0 0 6))), (t_seenCut, .inl (k 0, 6, .inl (va_cpy g5 f5 0 0 6))), (t_seenFound, .inl (k 0, 6, .inl (va_cpy g6 f6 0 0 6))), (o, .inr (5, [.ref o_weights, .ref o_kindOf, .ref o_light, .ref o_heavy, .ref o_seenBy, .ref o_seenCut, .ref o_seenFound, .int o_cellCount, .int o_peopleCount, .int o_slip, .int o_fine, .int o_appealCount, .int o_halfCount, .int o_pairCount, .int o_seenCount])), (o_weights, .inl (k 0, 8, .inl (g0))), (o_kindOf, .inl (k 0, 4, .inl (g1))), (o_light, .inl (k 0, 8, .inl (g2))), (o_heavy, .inl (k 0, 8, .inl (g3))), (o_seenBy, .inl (k 0, 6, .inl (g4))), (o_seenCut, .inl (k 0, 6, .inl (g5))), (o_seenFound, .inl (k 0, 6, .inl (g6)))]) := by
  refine Met.ofW (cc := cX6_copyFrom) (maxL := 2) (ret := none) (by decide) rfl ?_
  intro p e s m args below meth c s₁ B hml hv
  obtain ⟨rfl, hsz, hP, hK, hD0, hN⟩ := hv
  have hx := B.exec
  have hb := B.bytes
  have hr := B.returns
  have hlocks := B.notSynchronized
  have hts := atoms_spec (ws := wsX6_copyFrom) B.pre
  have hown : s.vm.findClass RX6 = some m.cls := findClass_of_methodNamed B.named
  have hiX6 : ∀ w ∈ u_ws RX6 TX6 15, w ∈ wsX6_copyFrom := by decide +kernel
  have fl9 := hts (.fieldLink RX6 9 "HalfScales$Thing" "weights" "[I") (by decide +kernel)
  have fl15 := hts (.fieldLink RX6 15 "HalfScales$Thing" "kindOf" "[I") (by decide +kernel)
  have fl18 := hts (.fieldLink RX6 18 "HalfScales$Thing" "light" "[I") (by decide +kernel)
  have fl21 := hts (.fieldLink RX6 21 "HalfScales$Thing" "heavy" "[I") (by decide +kernel)
  have fl24 := hts (.fieldLink RX6 24 "HalfScales$Thing" "seenBy" "[I") (by decide +kernel)
  have fl27 := hts (.fieldLink RX6 27 "HalfScales$Thing" "seenCut" "[I") (by decide +kernel)
  have fl30 := hts (.fieldLink RX6 30 "HalfScales$Thing" "seenFound" "[I") (by decide +kernel)
  have fl36 := hts (.fieldLink RX6 36 "HalfScales$Thing" "cellCount" "I") (by decide +kernel)
  have fl40 := hts (.fieldLink RX6 40 "HalfScales$Thing" "peopleCount" "I") (by decide +kernel)
  have fl43 := hts (.fieldLink RX6 43 "HalfScales$Thing" "slip" "I") (by decide +kernel)
  have fl46 := hts (.fieldLink RX6 46 "HalfScales$Thing" "fine" "I") (by decide +kernel)
  have fl49 := hts (.fieldLink RX6 49 "HalfScales$Thing" "appealCount" "I") (by decide +kernel)
  have fl52 := hts (.fieldLink RX6 52 "HalfScales$Thing" "halfCount" "I") (by decide +kernel)
  have fl55 := hts (.fieldLink RX6 55 "HalfScales$Thing" "pairCount" "I") (by decide +kernel)
  have fl58 := hts (.fieldLink RX6 58 "HalfScales$Thing" "seenCount" "I") (by decide +kernel)
  have al61 := hts (.methodLink RX6 61 arraycopyName) (by decide +kernel)
  have an := hts (.native arraycopyName) (by decide +kernel)
  have as := hts (.static arraycopyName) (by decide +kernel)
  have ai := hts (.initialized "java/lang/System") (by decide +kernel)
  subst hsz
  have hD := hD0.self (sz := s.heap.size)
  generalize hAe : va_A [(t, .inr (5, [.ref t_weights, .ref t_kindOf, .ref t_light, .ref t_heavy, .ref t_seenBy, .ref t_seenCut, .ref t_seenFound, .int t_cellCount, .int t_peopleCount, .int t_slip, .int t_fine, .int t_appealCount, .int t_halfCount, .int t_pairCount, .int t_seenCount])), (t_weights, .inl (k 0, 8, .inl (f0))), (t_kindOf, .inl (k 0, 4, .inl (f1))), (t_light, .inl (k 0, 8, .inl (f2))), (t_heavy, .inl (k 0, 8, .inl (f3))), (t_seenBy, .inl (k 0, 6, .inl (f4))), (t_seenCut, .inl (k 0, 6, .inl (f5))), (t_seenFound, .inl (k 0, 6, .inl (f6))), (o, .inr (5, [.ref o_weights, .ref o_kindOf, .ref o_light, .ref o_heavy, .ref o_seenBy, .ref o_seenCut, .ref o_seenFound, .int o_cellCount, .int o_peopleCount, .int o_slip, .int o_fine, .int o_appealCount, .int o_halfCount, .int o_pairCount, .int o_seenCount])), (o_weights, .inl (k 0, 8, .inl (g0))), (o_kindOf, .inl (k 0, 4, .inl (g1))), (o_light, .inl (k 0, 8, .inl (g2))), (o_heavy, .inl (k 0, 8, .inl (g3))), (o_seenBy, .inl (k 0, 6, .inl (g4))), (o_seenCut, .inl (k 0, 6, .inl (g5))), (o_seenFound, .inl (k 0, 6, .inl (g6)))] s.heap.size = A at hD ⊢
  have hA : ∀ q : Nat, s.heap.size ≤ q → A q := fun q h => by rw [← hAe]; exact Or.inr h
  have hS : va_S A s.heap s.heap [] := va_S.rf
  have hl := lv_entry ([.ref t, .ref o]) (n := 2) (Nat.le_of_ble_eq_true rfl)
  rw [lg_entry_eq]
  generalize (lg_sl ([.ref t, .ref o]) ++ List.replicate (2 - (lg_sl ([.ref t, .ref o])).length) Slot.unset).toArray = ls at hl ⊢
  have hl : lv_has ls 2 [(0, .ref t), (1, .ref o)] := hl
  have hP : va_P D vwCl [(t, .inr (5, [.ref t_weights, .ref t_kindOf, .ref t_light, .ref t_heavy, .ref t_seenBy, .ref t_seenCut, .ref t_seenFound, .int t_cellCount, .int t_peopleCount, .int t_slip, .int t_fine, .int t_appealCount, .int t_halfCount, .int t_pairCount, .int t_seenCount])), (t_weights, .inl (k 0, 8, .inl (f0))), (t_kindOf, .inl (k 0, 4, .inl (f1))), (t_light, .inl (k 0, 8, .inl (f2))), (t_heavy, .inl (k 0, 8, .inl (f3))), (t_seenBy, .inl (k 0, 6, .inl (f4))), (t_seenCut, .inl (k 0, 6, .inl (f5))), (t_seenFound, .inl (k 0, 6, .inl (f6))), (o, .inr (5, [.ref o_weights, .ref o_kindOf, .ref o_light, .ref o_heavy, .ref o_seenBy, .ref o_seenCut, .ref o_seenFound, .int o_cellCount, .int o_peopleCount, .int o_slip, .int o_fine, .int o_appealCount, .int o_halfCount, .int o_pairCount, .int o_seenCount])), (o_weights, .inl (k 0, 8, .inl (g0))), (o_kindOf, .inl (k 0, 4, .inl (g1))), (o_light, .inl (k 0, 8, .inl (g2))), (o_heavy, .inl (k 0, 8, .inl (g3))), (o_seenBy, .inl (k 0, 6, .inl (g4))), (o_seenCut, .inl (k 0, 6, .inl (g5))), (o_seenFound, .inl (k 0, 6, .inl (g6)))] s.heap := hP
  refine lv_aload_n hx hb dX6_copyFrom_0 rfl (lv_at hl 1 rfl) ?_
  refine va_get (D := D) (ci := 5) (v := .ref o_weights) (C := RX6) (T := TX6) (N := 15) hx hb hts hiX6 hown hK hP 8 rfl rfl 0 (by decide) fl9 (fun _ h9 => h9) rfl dX6_copyFrom_1 ?_
  refine lv_iconst (v := 0) hx hb dX6_copyFrom_4 (by decide) ?_
  refine lv_aload_n hx hb dX6_copyFrom_5 rfl (lv_at hl 0 rfl) ?_
  refine va_get (D := D) (ci := 5) (v := .ref t_weights) (C := RX6) (T := TX6) (N := 15) hx hb hts hiX6 hown hK hP 0 rfl rfl 0 (by decide) fl9 (fun _ h9 => h9) rfl dX6_copyFrom_6 ?_
  refine lv_iconst (v := 0) hx hb dX6_copyFrom_9 (by decide) ?_
  refine lv_bipush (v := 8) hx hb dX6_copyFrom_10 (by decide) ?_
  refine va_copyi (ty := .int) hx hb (hml.trans hl.1.symm) hown al61 an as ai hK hP hD hS 9 1 0 0 rfl rfl rfl rfl rfl (by decide) (by decide) (by decide) (by decide) (by decide) (fun _ _ => rfl) (Nat.le_of_ble_eq_true rfl) (by decide +kernel) dX6_copyFrom_12 (fun H locs hP hD hS => ?_)
  have hP : va_P D vwCl [(t, .inr (5, [.ref t_weights, .ref t_kindOf, .ref t_light, .ref t_heavy, .ref t_seenBy, .ref t_seenCut, .ref t_seenFound, .int t_cellCount, .int t_peopleCount, .int t_slip, .int t_fine, .int t_appealCount, .int t_halfCount, .int t_pairCount, .int t_seenCount])), (t_weights, .inl (k 0, 8, .inl (va_cpy g0 f0 0 0 8))), (t_kindOf, .inl (k 0, 4, .inl (f1))), (t_light, .inl (k 0, 8, .inl (f2))), (t_heavy, .inl (k 0, 8, .inl (f3))), (t_seenBy, .inl (k 0, 6, .inl (f4))), (t_seenCut, .inl (k 0, 6, .inl (f5))), (t_seenFound, .inl (k 0, 6, .inl (f6))), (o, .inr (5, [.ref o_weights, .ref o_kindOf, .ref o_light, .ref o_heavy, .ref o_seenBy, .ref o_seenCut, .ref o_seenFound, .int o_cellCount, .int o_peopleCount, .int o_slip, .int o_fine, .int o_appealCount, .int o_halfCount, .int o_pairCount, .int o_seenCount])), (o_weights, .inl (k 0, 8, .inl (g0))), (o_kindOf, .inl (k 0, 4, .inl (g1))), (o_light, .inl (k 0, 8, .inl (g2))), (o_heavy, .inl (k 0, 8, .inl (g3))), (o_seenBy, .inl (k 0, 6, .inl (g4))), (o_seenCut, .inl (k 0, 6, .inl (g5))), (o_seenFound, .inl (k 0, 6, .inl (g6)))] H := hP
  have hD : va_D A [(t, .inr (5, [.ref t_weights, .ref t_kindOf, .ref t_light, .ref t_heavy, .ref t_seenBy, .ref t_seenCut, .ref t_seenFound, .int t_cellCount, .int t_peopleCount, .int t_slip, .int t_fine, .int t_appealCount, .int t_halfCount, .int t_pairCount, .int t_seenCount])), (t_weights, .inl (k 0, 8, .inl (va_cpy g0 f0 0 0 8))), (t_kindOf, .inl (k 0, 4, .inl (f1))), (t_light, .inl (k 0, 8, .inl (f2))), (t_heavy, .inl (k 0, 8, .inl (f3))), (t_seenBy, .inl (k 0, 6, .inl (f4))), (t_seenCut, .inl (k 0, 6, .inl (f5))), (t_seenFound, .inl (k 0, 6, .inl (f6))), (o, .inr (5, [.ref o_weights, .ref o_kindOf, .ref o_light, .ref o_heavy, .ref o_seenBy, .ref o_seenCut, .ref o_seenFound, .int o_cellCount, .int o_peopleCount, .int o_slip, .int o_fine, .int o_appealCount, .int o_halfCount, .int o_pairCount, .int o_seenCount])), (o_weights, .inl (k 0, 8, .inl (g0))), (o_kindOf, .inl (k 0, 4, .inl (g1))), (o_light, .inl (k 0, 8, .inl (g2))), (o_heavy, .inl (k 0, 8, .inl (g3))), (o_seenBy, .inl (k 0, 6, .inl (g4))), (o_seenCut, .inl (k 0, 6, .inl (g5))), (o_seenFound, .inl (k 0, 6, .inl (g6)))] := hD
  refine lv_aload_n hx hb dX6_copyFrom_15 rfl (lv_at hl 1 rfl) ?_
  refine va_get (D := D) (ci := 5) (v := .ref o_kindOf) (C := RX6) (T := TX6) (N := 15) hx hb hts hiX6 hown hK hP 8 rfl rfl 1 (by decide) fl15 (fun _ h9 => h9) rfl dX6_copyFrom_16 ?_
  refine lv_iconst (v := 0) hx hb dX6_copyFrom_19 (by decide) ?_
  refine lv_aload_n hx hb dX6_copyFrom_20 rfl (lv_at hl 0 rfl) ?_
  refine va_get (D := D) (ci := 5) (v := .ref t_kindOf) (C := RX6) (T := TX6) (N := 15) hx hb hts hiX6 hown hK hP 0 rfl rfl 1 (by decide) fl15 (fun _ h9 => h9) rfl dX6_copyFrom_21 ?_
  refine lv_iconst (v := 0) hx hb dX6_copyFrom_24 (by decide) ?_
  refine lv_iconst (v := 4) hx hb dX6_copyFrom_25 (by decide) ?_
  refine va_copyi (ty := .int) hx hb (hml.trans hl.1.symm) hown al61 an as ai hK hP hD hS 10 2 0 0 rfl rfl rfl rfl rfl (by decide) (by decide) (by decide) (by decide) (by decide) (fun _ _ => rfl) (Nat.le_of_ble_eq_true rfl) (by decide +kernel) dX6_copyFrom_26 (fun H locs hP hD hS => ?_)
  have hP : va_P D vwCl [(t, .inr (5, [.ref t_weights, .ref t_kindOf, .ref t_light, .ref t_heavy, .ref t_seenBy, .ref t_seenCut, .ref t_seenFound, .int t_cellCount, .int t_peopleCount, .int t_slip, .int t_fine, .int t_appealCount, .int t_halfCount, .int t_pairCount, .int t_seenCount])), (t_weights, .inl (k 0, 8, .inl (va_cpy g0 f0 0 0 8))), (t_kindOf, .inl (k 0, 4, .inl (va_cpy g1 f1 0 0 4))), (t_light, .inl (k 0, 8, .inl (f2))), (t_heavy, .inl (k 0, 8, .inl (f3))), (t_seenBy, .inl (k 0, 6, .inl (f4))), (t_seenCut, .inl (k 0, 6, .inl (f5))), (t_seenFound, .inl (k 0, 6, .inl (f6))), (o, .inr (5, [.ref o_weights, .ref o_kindOf, .ref o_light, .ref o_heavy, .ref o_seenBy, .ref o_seenCut, .ref o_seenFound, .int o_cellCount, .int o_peopleCount, .int o_slip, .int o_fine, .int o_appealCount, .int o_halfCount, .int o_pairCount, .int o_seenCount])), (o_weights, .inl (k 0, 8, .inl (g0))), (o_kindOf, .inl (k 0, 4, .inl (g1))), (o_light, .inl (k 0, 8, .inl (g2))), (o_heavy, .inl (k 0, 8, .inl (g3))), (o_seenBy, .inl (k 0, 6, .inl (g4))), (o_seenCut, .inl (k 0, 6, .inl (g5))), (o_seenFound, .inl (k 0, 6, .inl (g6)))] H := hP
  have hD : va_D A [(t, .inr (5, [.ref t_weights, .ref t_kindOf, .ref t_light, .ref t_heavy, .ref t_seenBy, .ref t_seenCut, .ref t_seenFound, .int t_cellCount, .int t_peopleCount, .int t_slip, .int t_fine, .int t_appealCount, .int t_halfCount, .int t_pairCount, .int t_seenCount])), (t_weights, .inl (k 0, 8, .inl (va_cpy g0 f0 0 0 8))), (t_kindOf, .inl (k 0, 4, .inl (va_cpy g1 f1 0 0 4))), (t_light, .inl (k 0, 8, .inl (f2))), (t_heavy, .inl (k 0, 8, .inl (f3))), (t_seenBy, .inl (k 0, 6, .inl (f4))), (t_seenCut, .inl (k 0, 6, .inl (f5))), (t_seenFound, .inl (k 0, 6, .inl (f6))), (o, .inr (5, [.ref o_weights, .ref o_kindOf, .ref o_light, .ref o_heavy, .ref o_seenBy, .ref o_seenCut, .ref o_seenFound, .int o_cellCount, .int o_peopleCount, .int o_slip, .int o_fine, .int o_appealCount, .int o_halfCount, .int o_pairCount, .int o_seenCount])), (o_weights, .inl (k 0, 8, .inl (g0))), (o_kindOf, .inl (k 0, 4, .inl (g1))), (o_light, .inl (k 0, 8, .inl (g2))), (o_heavy, .inl (k 0, 8, .inl (g3))), (o_seenBy, .inl (k 0, 6, .inl (g4))), (o_seenCut, .inl (k 0, 6, .inl (g5))), (o_seenFound, .inl (k 0, 6, .inl (g6)))] := hD
  refine lv_aload_n hx hb dX6_copyFrom_29 rfl (lv_at hl 1 rfl) ?_
  refine va_get (D := D) (ci := 5) (v := .ref o_light) (C := RX6) (T := TX6) (N := 15) hx hb hts hiX6 hown hK hP 8 rfl rfl 2 (by decide) fl18 (fun _ h9 => h9) rfl dX6_copyFrom_30 ?_
  refine lv_iconst (v := 0) hx hb dX6_copyFrom_33 (by decide) ?_
  refine lv_aload_n hx hb dX6_copyFrom_34 rfl (lv_at hl 0 rfl) ?_
  refine va_get (D := D) (ci := 5) (v := .ref t_light) (C := RX6) (T := TX6) (N := 15) hx hb hts hiX6 hown hK hP 0 rfl rfl 2 (by decide) fl18 (fun _ h9 => h9) rfl dX6_copyFrom_35 ?_
  refine lv_iconst (v := 0) hx hb dX6_copyFrom_38 (by decide) ?_
  refine lv_bipush (v := 8) hx hb dX6_copyFrom_39 (by decide) ?_
  refine va_copyi (ty := .int) hx hb (hml.trans hl.1.symm) hown al61 an as ai hK hP hD hS 11 3 0 0 rfl rfl rfl rfl rfl (by decide) (by decide) (by decide) (by decide) (by decide) (fun _ _ => rfl) (Nat.le_of_ble_eq_true rfl) (by decide +kernel) dX6_copyFrom_41 (fun H locs hP hD hS => ?_)
  have hP : va_P D vwCl [(t, .inr (5, [.ref t_weights, .ref t_kindOf, .ref t_light, .ref t_heavy, .ref t_seenBy, .ref t_seenCut, .ref t_seenFound, .int t_cellCount, .int t_peopleCount, .int t_slip, .int t_fine, .int t_appealCount, .int t_halfCount, .int t_pairCount, .int t_seenCount])), (t_weights, .inl (k 0, 8, .inl (va_cpy g0 f0 0 0 8))), (t_kindOf, .inl (k 0, 4, .inl (va_cpy g1 f1 0 0 4))), (t_light, .inl (k 0, 8, .inl (va_cpy g2 f2 0 0 8))), (t_heavy, .inl (k 0, 8, .inl (f3))), (t_seenBy, .inl (k 0, 6, .inl (f4))), (t_seenCut, .inl (k 0, 6, .inl (f5))), (t_seenFound, .inl (k 0, 6, .inl (f6))), (o, .inr (5, [.ref o_weights, .ref o_kindOf, .ref o_light, .ref o_heavy, .ref o_seenBy, .ref o_seenCut, .ref o_seenFound, .int o_cellCount, .int o_peopleCount, .int o_slip, .int o_fine, .int o_appealCount, .int o_halfCount, .int o_pairCount, .int o_seenCount])), (o_weights, .inl (k 0, 8, .inl (g0))), (o_kindOf, .inl (k 0, 4, .inl (g1))), (o_light, .inl (k 0, 8, .inl (g2))), (o_heavy, .inl (k 0, 8, .inl (g3))), (o_seenBy, .inl (k 0, 6, .inl (g4))), (o_seenCut, .inl (k 0, 6, .inl (g5))), (o_seenFound, .inl (k 0, 6, .inl (g6)))] H := hP
  have hD : va_D A [(t, .inr (5, [.ref t_weights, .ref t_kindOf, .ref t_light, .ref t_heavy, .ref t_seenBy, .ref t_seenCut, .ref t_seenFound, .int t_cellCount, .int t_peopleCount, .int t_slip, .int t_fine, .int t_appealCount, .int t_halfCount, .int t_pairCount, .int t_seenCount])), (t_weights, .inl (k 0, 8, .inl (va_cpy g0 f0 0 0 8))), (t_kindOf, .inl (k 0, 4, .inl (va_cpy g1 f1 0 0 4))), (t_light, .inl (k 0, 8, .inl (va_cpy g2 f2 0 0 8))), (t_heavy, .inl (k 0, 8, .inl (f3))), (t_seenBy, .inl (k 0, 6, .inl (f4))), (t_seenCut, .inl (k 0, 6, .inl (f5))), (t_seenFound, .inl (k 0, 6, .inl (f6))), (o, .inr (5, [.ref o_weights, .ref o_kindOf, .ref o_light, .ref o_heavy, .ref o_seenBy, .ref o_seenCut, .ref o_seenFound, .int o_cellCount, .int o_peopleCount, .int o_slip, .int o_fine, .int o_appealCount, .int o_halfCount, .int o_pairCount, .int o_seenCount])), (o_weights, .inl (k 0, 8, .inl (g0))), (o_kindOf, .inl (k 0, 4, .inl (g1))), (o_light, .inl (k 0, 8, .inl (g2))), (o_heavy, .inl (k 0, 8, .inl (g3))), (o_seenBy, .inl (k 0, 6, .inl (g4))), (o_seenCut, .inl (k 0, 6, .inl (g5))), (o_seenFound, .inl (k 0, 6, .inl (g6)))] := hD
  refine lv_aload_n hx hb dX6_copyFrom_44 rfl (lv_at hl 1 rfl) ?_
  refine va_get (D := D) (ci := 5) (v := .ref o_heavy) (C := RX6) (T := TX6) (N := 15) hx hb hts hiX6 hown hK hP 8 rfl rfl 3 (by decide) fl21 (fun _ h9 => h9) rfl dX6_copyFrom_45 ?_
  refine lv_iconst (v := 0) hx hb dX6_copyFrom_48 (by decide) ?_
  refine lv_aload_n hx hb dX6_copyFrom_49 rfl (lv_at hl 0 rfl) ?_
  refine va_get (D := D) (ci := 5) (v := .ref t_heavy) (C := RX6) (T := TX6) (N := 15) hx hb hts hiX6 hown hK hP 0 rfl rfl 3 (by decide) fl21 (fun _ h9 => h9) rfl dX6_copyFrom_50 ?_
  refine lv_iconst (v := 0) hx hb dX6_copyFrom_53 (by decide) ?_
  refine lv_bipush (v := 8) hx hb dX6_copyFrom_54 (by decide) ?_
  refine va_copyi (ty := .int) hx hb (hml.trans hl.1.symm) hown al61 an as ai hK hP hD hS 12 4 0 0 rfl rfl rfl rfl rfl (by decide) (by decide) (by decide) (by decide) (by decide) (fun _ _ => rfl) (Nat.le_of_ble_eq_true rfl) (by decide +kernel) dX6_copyFrom_56 (fun H locs hP hD hS => ?_)
  have hP : va_P D vwCl [(t, .inr (5, [.ref t_weights, .ref t_kindOf, .ref t_light, .ref t_heavy, .ref t_seenBy, .ref t_seenCut, .ref t_seenFound, .int t_cellCount, .int t_peopleCount, .int t_slip, .int t_fine, .int t_appealCount, .int t_halfCount, .int t_pairCount, .int t_seenCount])), (t_weights, .inl (k 0, 8, .inl (va_cpy g0 f0 0 0 8))), (t_kindOf, .inl (k 0, 4, .inl (va_cpy g1 f1 0 0 4))), (t_light, .inl (k 0, 8, .inl (va_cpy g2 f2 0 0 8))), (t_heavy, .inl (k 0, 8, .inl (va_cpy g3 f3 0 0 8))), (t_seenBy, .inl (k 0, 6, .inl (f4))), (t_seenCut, .inl (k 0, 6, .inl (f5))), (t_seenFound, .inl (k 0, 6, .inl (f6))), (o, .inr (5, [.ref o_weights, .ref o_kindOf, .ref o_light, .ref o_heavy, .ref o_seenBy, .ref o_seenCut, .ref o_seenFound, .int o_cellCount, .int o_peopleCount, .int o_slip, .int o_fine, .int o_appealCount, .int o_halfCount, .int o_pairCount, .int o_seenCount])), (o_weights, .inl (k 0, 8, .inl (g0))), (o_kindOf, .inl (k 0, 4, .inl (g1))), (o_light, .inl (k 0, 8, .inl (g2))), (o_heavy, .inl (k 0, 8, .inl (g3))), (o_seenBy, .inl (k 0, 6, .inl (g4))), (o_seenCut, .inl (k 0, 6, .inl (g5))), (o_seenFound, .inl (k 0, 6, .inl (g6)))] H := hP
  have hD : va_D A [(t, .inr (5, [.ref t_weights, .ref t_kindOf, .ref t_light, .ref t_heavy, .ref t_seenBy, .ref t_seenCut, .ref t_seenFound, .int t_cellCount, .int t_peopleCount, .int t_slip, .int t_fine, .int t_appealCount, .int t_halfCount, .int t_pairCount, .int t_seenCount])), (t_weights, .inl (k 0, 8, .inl (va_cpy g0 f0 0 0 8))), (t_kindOf, .inl (k 0, 4, .inl (va_cpy g1 f1 0 0 4))), (t_light, .inl (k 0, 8, .inl (va_cpy g2 f2 0 0 8))), (t_heavy, .inl (k 0, 8, .inl (va_cpy g3 f3 0 0 8))), (t_seenBy, .inl (k 0, 6, .inl (f4))), (t_seenCut, .inl (k 0, 6, .inl (f5))), (t_seenFound, .inl (k 0, 6, .inl (f6))), (o, .inr (5, [.ref o_weights, .ref o_kindOf, .ref o_light, .ref o_heavy, .ref o_seenBy, .ref o_seenCut, .ref o_seenFound, .int o_cellCount, .int o_peopleCount, .int o_slip, .int o_fine, .int o_appealCount, .int o_halfCount, .int o_pairCount, .int o_seenCount])), (o_weights, .inl (k 0, 8, .inl (g0))), (o_kindOf, .inl (k 0, 4, .inl (g1))), (o_light, .inl (k 0, 8, .inl (g2))), (o_heavy, .inl (k 0, 8, .inl (g3))), (o_seenBy, .inl (k 0, 6, .inl (g4))), (o_seenCut, .inl (k 0, 6, .inl (g5))), (o_seenFound, .inl (k 0, 6, .inl (g6)))] := hD
  refine lv_aload_n hx hb dX6_copyFrom_59 rfl (lv_at hl 1 rfl) ?_
  refine va_get (D := D) (ci := 5) (v := .ref o_seenBy) (C := RX6) (T := TX6) (N := 15) hx hb hts hiX6 hown hK hP 8 rfl rfl 4 (by decide) fl24 (fun _ h9 => h9) rfl dX6_copyFrom_60 ?_
  refine lv_iconst (v := 0) hx hb dX6_copyFrom_63 (by decide) ?_
  refine lv_aload_n hx hb dX6_copyFrom_64 rfl (lv_at hl 0 rfl) ?_
  refine va_get (D := D) (ci := 5) (v := .ref t_seenBy) (C := RX6) (T := TX6) (N := 15) hx hb hts hiX6 hown hK hP 0 rfl rfl 4 (by decide) fl24 (fun _ h9 => h9) rfl dX6_copyFrom_65 ?_
  refine lv_iconst (v := 0) hx hb dX6_copyFrom_68 (by decide) ?_
  refine lv_bipush (v := 6) hx hb dX6_copyFrom_69 (by decide) ?_
  refine va_copyi (ty := .int) hx hb (hml.trans hl.1.symm) hown al61 an as ai hK hP hD hS 13 5 0 0 rfl rfl rfl rfl rfl (by decide) (by decide) (by decide) (by decide) (by decide) (fun _ _ => rfl) (Nat.le_of_ble_eq_true rfl) (by decide +kernel) dX6_copyFrom_71 (fun H locs hP hD hS => ?_)
  have hP : va_P D vwCl [(t, .inr (5, [.ref t_weights, .ref t_kindOf, .ref t_light, .ref t_heavy, .ref t_seenBy, .ref t_seenCut, .ref t_seenFound, .int t_cellCount, .int t_peopleCount, .int t_slip, .int t_fine, .int t_appealCount, .int t_halfCount, .int t_pairCount, .int t_seenCount])), (t_weights, .inl (k 0, 8, .inl (va_cpy g0 f0 0 0 8))), (t_kindOf, .inl (k 0, 4, .inl (va_cpy g1 f1 0 0 4))), (t_light, .inl (k 0, 8, .inl (va_cpy g2 f2 0 0 8))), (t_heavy, .inl (k 0, 8, .inl (va_cpy g3 f3 0 0 8))), (t_seenBy, .inl (k 0, 6, .inl (va_cpy g4 f4 0 0 6))), (t_seenCut, .inl (k 0, 6, .inl (f5))), (t_seenFound, .inl (k 0, 6, .inl (f6))), (o, .inr (5, [.ref o_weights, .ref o_kindOf, .ref o_light, .ref o_heavy, .ref o_seenBy, .ref o_seenCut, .ref o_seenFound, .int o_cellCount, .int o_peopleCount, .int o_slip, .int o_fine, .int o_appealCount, .int o_halfCount, .int o_pairCount, .int o_seenCount])), (o_weights, .inl (k 0, 8, .inl (g0))), (o_kindOf, .inl (k 0, 4, .inl (g1))), (o_light, .inl (k 0, 8, .inl (g2))), (o_heavy, .inl (k 0, 8, .inl (g3))), (o_seenBy, .inl (k 0, 6, .inl (g4))), (o_seenCut, .inl (k 0, 6, .inl (g5))), (o_seenFound, .inl (k 0, 6, .inl (g6)))] H := hP
  have hD : va_D A [(t, .inr (5, [.ref t_weights, .ref t_kindOf, .ref t_light, .ref t_heavy, .ref t_seenBy, .ref t_seenCut, .ref t_seenFound, .int t_cellCount, .int t_peopleCount, .int t_slip, .int t_fine, .int t_appealCount, .int t_halfCount, .int t_pairCount, .int t_seenCount])), (t_weights, .inl (k 0, 8, .inl (va_cpy g0 f0 0 0 8))), (t_kindOf, .inl (k 0, 4, .inl (va_cpy g1 f1 0 0 4))), (t_light, .inl (k 0, 8, .inl (va_cpy g2 f2 0 0 8))), (t_heavy, .inl (k 0, 8, .inl (va_cpy g3 f3 0 0 8))), (t_seenBy, .inl (k 0, 6, .inl (va_cpy g4 f4 0 0 6))), (t_seenCut, .inl (k 0, 6, .inl (f5))), (t_seenFound, .inl (k 0, 6, .inl (f6))), (o, .inr (5, [.ref o_weights, .ref o_kindOf, .ref o_light, .ref o_heavy, .ref o_seenBy, .ref o_seenCut, .ref o_seenFound, .int o_cellCount, .int o_peopleCount, .int o_slip, .int o_fine, .int o_appealCount, .int o_halfCount, .int o_pairCount, .int o_seenCount])), (o_weights, .inl (k 0, 8, .inl (g0))), (o_kindOf, .inl (k 0, 4, .inl (g1))), (o_light, .inl (k 0, 8, .inl (g2))), (o_heavy, .inl (k 0, 8, .inl (g3))), (o_seenBy, .inl (k 0, 6, .inl (g4))), (o_seenCut, .inl (k 0, 6, .inl (g5))), (o_seenFound, .inl (k 0, 6, .inl (g6)))] := hD
  refine lv_aload_n hx hb dX6_copyFrom_74 rfl (lv_at hl 1 rfl) ?_
  refine va_get (D := D) (ci := 5) (v := .ref o_seenCut) (C := RX6) (T := TX6) (N := 15) hx hb hts hiX6 hown hK hP 8 rfl rfl 5 (by decide) fl27 (fun _ h9 => h9) rfl dX6_copyFrom_75 ?_
  refine lv_iconst (v := 0) hx hb dX6_copyFrom_78 (by decide) ?_
  refine lv_aload_n hx hb dX6_copyFrom_79 rfl (lv_at hl 0 rfl) ?_
  refine va_get (D := D) (ci := 5) (v := .ref t_seenCut) (C := RX6) (T := TX6) (N := 15) hx hb hts hiX6 hown hK hP 0 rfl rfl 5 (by decide) fl27 (fun _ h9 => h9) rfl dX6_copyFrom_80 ?_
  refine lv_iconst (v := 0) hx hb dX6_copyFrom_83 (by decide) ?_
  refine lv_bipush (v := 6) hx hb dX6_copyFrom_84 (by decide) ?_
  refine va_copyi (ty := .int) hx hb (hml.trans hl.1.symm) hown al61 an as ai hK hP hD hS 14 6 0 0 rfl rfl rfl rfl rfl (by decide) (by decide) (by decide) (by decide) (by decide) (fun _ _ => rfl) (Nat.le_of_ble_eq_true rfl) (by decide +kernel) dX6_copyFrom_86 (fun H locs hP hD hS => ?_)
  have hP : va_P D vwCl [(t, .inr (5, [.ref t_weights, .ref t_kindOf, .ref t_light, .ref t_heavy, .ref t_seenBy, .ref t_seenCut, .ref t_seenFound, .int t_cellCount, .int t_peopleCount, .int t_slip, .int t_fine, .int t_appealCount, .int t_halfCount, .int t_pairCount, .int t_seenCount])), (t_weights, .inl (k 0, 8, .inl (va_cpy g0 f0 0 0 8))), (t_kindOf, .inl (k 0, 4, .inl (va_cpy g1 f1 0 0 4))), (t_light, .inl (k 0, 8, .inl (va_cpy g2 f2 0 0 8))), (t_heavy, .inl (k 0, 8, .inl (va_cpy g3 f3 0 0 8))), (t_seenBy, .inl (k 0, 6, .inl (va_cpy g4 f4 0 0 6))), (t_seenCut, .inl (k 0, 6, .inl (va_cpy g5 f5 0 0 6))), (t_seenFound, .inl (k 0, 6, .inl (f6))), (o, .inr (5, [.ref o_weights, .ref o_kindOf, .ref o_light, .ref o_heavy, .ref o_seenBy, .ref o_seenCut, .ref o_seenFound, .int o_cellCount, .int o_peopleCount, .int o_slip, .int o_fine, .int o_appealCount, .int o_halfCount, .int o_pairCount, .int o_seenCount])), (o_weights, .inl (k 0, 8, .inl (g0))), (o_kindOf, .inl (k 0, 4, .inl (g1))), (o_light, .inl (k 0, 8, .inl (g2))), (o_heavy, .inl (k 0, 8, .inl (g3))), (o_seenBy, .inl (k 0, 6, .inl (g4))), (o_seenCut, .inl (k 0, 6, .inl (g5))), (o_seenFound, .inl (k 0, 6, .inl (g6)))] H := hP
  have hD : va_D A [(t, .inr (5, [.ref t_weights, .ref t_kindOf, .ref t_light, .ref t_heavy, .ref t_seenBy, .ref t_seenCut, .ref t_seenFound, .int t_cellCount, .int t_peopleCount, .int t_slip, .int t_fine, .int t_appealCount, .int t_halfCount, .int t_pairCount, .int t_seenCount])), (t_weights, .inl (k 0, 8, .inl (va_cpy g0 f0 0 0 8))), (t_kindOf, .inl (k 0, 4, .inl (va_cpy g1 f1 0 0 4))), (t_light, .inl (k 0, 8, .inl (va_cpy g2 f2 0 0 8))), (t_heavy, .inl (k 0, 8, .inl (va_cpy g3 f3 0 0 8))), (t_seenBy, .inl (k 0, 6, .inl (va_cpy g4 f4 0 0 6))), (t_seenCut, .inl (k 0, 6, .inl (va_cpy g5 f5 0 0 6))), (t_seenFound, .inl (k 0, 6, .inl (f6))), (o, .inr (5, [.ref o_weights, .ref o_kindOf, .ref o_light, .ref o_heavy, .ref o_seenBy, .ref o_seenCut, .ref o_seenFound, .int o_cellCount, .int o_peopleCount, .int o_slip, .int o_fine, .int o_appealCount, .int o_halfCount, .int o_pairCount, .int o_seenCount])), (o_weights, .inl (k 0, 8, .inl (g0))), (o_kindOf, .inl (k 0, 4, .inl (g1))), (o_light, .inl (k 0, 8, .inl (g2))), (o_heavy, .inl (k 0, 8, .inl (g3))), (o_seenBy, .inl (k 0, 6, .inl (g4))), (o_seenCut, .inl (k 0, 6, .inl (g5))), (o_seenFound, .inl (k 0, 6, .inl (g6)))] := hD
  refine lv_aload_n hx hb dX6_copyFrom_89 rfl (lv_at hl 1 rfl) ?_
  refine va_get (D := D) (ci := 5) (v := .ref o_seenFound) (C := RX6) (T := TX6) (N := 15) hx hb hts hiX6 hown hK hP 8 rfl rfl 6 (by decide) fl30 (fun _ h9 => h9) rfl dX6_copyFrom_90 ?_
  refine lv_iconst (v := 0) hx hb dX6_copyFrom_93 (by decide) ?_
  refine lv_aload_n hx hb dX6_copyFrom_94 rfl (lv_at hl 0 rfl) ?_
  refine va_get (D := D) (ci := 5) (v := .ref t_seenFound) (C := RX6) (T := TX6) (N := 15) hx hb hts hiX6 hown hK hP 0 rfl rfl 6 (by decide) fl30 (fun _ h9 => h9) rfl dX6_copyFrom_95 ?_
  refine lv_iconst (v := 0) hx hb dX6_copyFrom_98 (by decide) ?_
  refine lv_bipush (v := 6) hx hb dX6_copyFrom_99 (by decide) ?_
  refine va_copyi (ty := .int) hx hb (hml.trans hl.1.symm) hown al61 an as ai hK hP hD hS 15 7 0 0 rfl rfl rfl rfl rfl (by decide) (by decide) (by decide) (by decide) (by decide) (fun _ _ => rfl) (Nat.le_of_ble_eq_true rfl) (by decide +kernel) dX6_copyFrom_101 (fun H locs hP hD hS => ?_)
  have hP : va_P D vwCl [(t, .inr (5, [.ref t_weights, .ref t_kindOf, .ref t_light, .ref t_heavy, .ref t_seenBy, .ref t_seenCut, .ref t_seenFound, .int t_cellCount, .int t_peopleCount, .int t_slip, .int t_fine, .int t_appealCount, .int t_halfCount, .int t_pairCount, .int t_seenCount])), (t_weights, .inl (k 0, 8, .inl (va_cpy g0 f0 0 0 8))), (t_kindOf, .inl (k 0, 4, .inl (va_cpy g1 f1 0 0 4))), (t_light, .inl (k 0, 8, .inl (va_cpy g2 f2 0 0 8))), (t_heavy, .inl (k 0, 8, .inl (va_cpy g3 f3 0 0 8))), (t_seenBy, .inl (k 0, 6, .inl (va_cpy g4 f4 0 0 6))), (t_seenCut, .inl (k 0, 6, .inl (va_cpy g5 f5 0 0 6))), (t_seenFound, .inl (k 0, 6, .inl (va_cpy g6 f6 0 0 6))), (o, .inr (5, [.ref o_weights, .ref o_kindOf, .ref o_light, .ref o_heavy, .ref o_seenBy, .ref o_seenCut, .ref o_seenFound, .int o_cellCount, .int o_peopleCount, .int o_slip, .int o_fine, .int o_appealCount, .int o_halfCount, .int o_pairCount, .int o_seenCount])), (o_weights, .inl (k 0, 8, .inl (g0))), (o_kindOf, .inl (k 0, 4, .inl (g1))), (o_light, .inl (k 0, 8, .inl (g2))), (o_heavy, .inl (k 0, 8, .inl (g3))), (o_seenBy, .inl (k 0, 6, .inl (g4))), (o_seenCut, .inl (k 0, 6, .inl (g5))), (o_seenFound, .inl (k 0, 6, .inl (g6)))] H := hP
  have hD : va_D A [(t, .inr (5, [.ref t_weights, .ref t_kindOf, .ref t_light, .ref t_heavy, .ref t_seenBy, .ref t_seenCut, .ref t_seenFound, .int t_cellCount, .int t_peopleCount, .int t_slip, .int t_fine, .int t_appealCount, .int t_halfCount, .int t_pairCount, .int t_seenCount])), (t_weights, .inl (k 0, 8, .inl (va_cpy g0 f0 0 0 8))), (t_kindOf, .inl (k 0, 4, .inl (va_cpy g1 f1 0 0 4))), (t_light, .inl (k 0, 8, .inl (va_cpy g2 f2 0 0 8))), (t_heavy, .inl (k 0, 8, .inl (va_cpy g3 f3 0 0 8))), (t_seenBy, .inl (k 0, 6, .inl (va_cpy g4 f4 0 0 6))), (t_seenCut, .inl (k 0, 6, .inl (va_cpy g5 f5 0 0 6))), (t_seenFound, .inl (k 0, 6, .inl (va_cpy g6 f6 0 0 6))), (o, .inr (5, [.ref o_weights, .ref o_kindOf, .ref o_light, .ref o_heavy, .ref o_seenBy, .ref o_seenCut, .ref o_seenFound, .int o_cellCount, .int o_peopleCount, .int o_slip, .int o_fine, .int o_appealCount, .int o_halfCount, .int o_pairCount, .int o_seenCount])), (o_weights, .inl (k 0, 8, .inl (g0))), (o_kindOf, .inl (k 0, 4, .inl (g1))), (o_light, .inl (k 0, 8, .inl (g2))), (o_heavy, .inl (k 0, 8, .inl (g3))), (o_seenBy, .inl (k 0, 6, .inl (g4))), (o_seenCut, .inl (k 0, 6, .inl (g5))), (o_seenFound, .inl (k 0, 6, .inl (g6)))] := hD
  refine lv_aload_n hx hb dX6_copyFrom_104 rfl (lv_at hl 0 rfl) ?_
  refine lv_aload_n hx hb dX6_copyFrom_105 rfl (lv_at hl 1 rfl) ?_
  refine va_get (D := D) (ci := 5) (v := .int o_cellCount) (C := RX6) (T := TX6) (N := 15) hx hb hts hiX6 hown hK hP 8 rfl rfl 7 (by decide) fl36 (fun _ h9 => h9) rfl dX6_copyFrom_106 ?_
  refine va_put (D := D) (ci := 5) (v := .int o_cellCount) (ty := .int) (C := RX6) (T := TX6) (N := 15) hx hb hts hiX6 tyX6 tyX6_ok nmX6 hown hK hP hD hS 0 rfl rfl 7 (by decide) fl36 (fun _ h9 => h9) rfl (by decide +kernel) rfl rfl (Nat.le_of_ble_eq_true rfl) dX6_copyFrom_109 (fun H locs hP hD hS => ?_)
  have hP : va_P D vwCl [(t, .inr (5, [.ref t_weights, .ref t_kindOf, .ref t_light, .ref t_heavy, .ref t_seenBy, .ref t_seenCut, .ref t_seenFound, .int o_cellCount, .int t_peopleCount, .int t_slip, .int t_fine, .int t_appealCount, .int t_halfCount, .int t_pairCount, .int t_seenCount])), (t_weights, .inl (k 0, 8, .inl (va_cpy g0 f0 0 0 8))), (t_kindOf, .inl (k 0, 4, .inl (va_cpy g1 f1 0 0 4))), (t_light, .inl (k 0, 8, .inl (va_cpy g2 f2 0 0 8))), (t_heavy, .inl (k 0, 8, .inl (va_cpy g3 f3 0 0 8))), (t_seenBy, .inl (k 0, 6, .inl (va_cpy g4 f4 0 0 6))), (t_seenCut, .inl (k 0, 6, .inl (va_cpy g5 f5 0 0 6))), (t_seenFound, .inl (k 0, 6, .inl (va_cpy g6 f6 0 0 6))), (o, .inr (5, [.ref o_weights, .ref o_kindOf, .ref o_light, .ref o_heavy, .ref o_seenBy, .ref o_seenCut, .ref o_seenFound, .int o_cellCount, .int o_peopleCount, .int o_slip, .int o_fine, .int o_appealCount, .int o_halfCount, .int o_pairCount, .int o_seenCount])), (o_weights, .inl (k 0, 8, .inl (g0))), (o_kindOf, .inl (k 0, 4, .inl (g1))), (o_light, .inl (k 0, 8, .inl (g2))), (o_heavy, .inl (k 0, 8, .inl (g3))), (o_seenBy, .inl (k 0, 6, .inl (g4))), (o_seenCut, .inl (k 0, 6, .inl (g5))), (o_seenFound, .inl (k 0, 6, .inl (g6)))] H := hP
  have hD : va_D A [(t, .inr (5, [.ref t_weights, .ref t_kindOf, .ref t_light, .ref t_heavy, .ref t_seenBy, .ref t_seenCut, .ref t_seenFound, .int o_cellCount, .int t_peopleCount, .int t_slip, .int t_fine, .int t_appealCount, .int t_halfCount, .int t_pairCount, .int t_seenCount])), (t_weights, .inl (k 0, 8, .inl (va_cpy g0 f0 0 0 8))), (t_kindOf, .inl (k 0, 4, .inl (va_cpy g1 f1 0 0 4))), (t_light, .inl (k 0, 8, .inl (va_cpy g2 f2 0 0 8))), (t_heavy, .inl (k 0, 8, .inl (va_cpy g3 f3 0 0 8))), (t_seenBy, .inl (k 0, 6, .inl (va_cpy g4 f4 0 0 6))), (t_seenCut, .inl (k 0, 6, .inl (va_cpy g5 f5 0 0 6))), (t_seenFound, .inl (k 0, 6, .inl (va_cpy g6 f6 0 0 6))), (o, .inr (5, [.ref o_weights, .ref o_kindOf, .ref o_light, .ref o_heavy, .ref o_seenBy, .ref o_seenCut, .ref o_seenFound, .int o_cellCount, .int o_peopleCount, .int o_slip, .int o_fine, .int o_appealCount, .int o_halfCount, .int o_pairCount, .int o_seenCount])), (o_weights, .inl (k 0, 8, .inl (g0))), (o_kindOf, .inl (k 0, 4, .inl (g1))), (o_light, .inl (k 0, 8, .inl (g2))), (o_heavy, .inl (k 0, 8, .inl (g3))), (o_seenBy, .inl (k 0, 6, .inl (g4))), (o_seenCut, .inl (k 0, 6, .inl (g5))), (o_seenFound, .inl (k 0, 6, .inl (g6)))] := hD
  refine lv_aload_n hx hb dX6_copyFrom_112 rfl (lv_at hl 0 rfl) ?_
  refine lv_aload_n hx hb dX6_copyFrom_113 rfl (lv_at hl 1 rfl) ?_
  refine va_get (D := D) (ci := 5) (v := .int o_peopleCount) (C := RX6) (T := TX6) (N := 15) hx hb hts hiX6 hown hK hP 8 rfl rfl 8 (by decide) fl40 (fun _ h9 => h9) rfl dX6_copyFrom_114 ?_
  refine va_put (D := D) (ci := 5) (v := .int o_peopleCount) (ty := .int) (C := RX6) (T := TX6) (N := 15) hx hb hts hiX6 tyX6 tyX6_ok nmX6 hown hK hP hD hS 0 rfl rfl 8 (by decide) fl40 (fun _ h9 => h9) rfl (by decide +kernel) rfl rfl (Nat.le_of_ble_eq_true rfl) dX6_copyFrom_117 (fun H locs hP hD hS => ?_)
  have hP : va_P D vwCl [(t, .inr (5, [.ref t_weights, .ref t_kindOf, .ref t_light, .ref t_heavy, .ref t_seenBy, .ref t_seenCut, .ref t_seenFound, .int o_cellCount, .int o_peopleCount, .int t_slip, .int t_fine, .int t_appealCount, .int t_halfCount, .int t_pairCount, .int t_seenCount])), (t_weights, .inl (k 0, 8, .inl (va_cpy g0 f0 0 0 8))), (t_kindOf, .inl (k 0, 4, .inl (va_cpy g1 f1 0 0 4))), (t_light, .inl (k 0, 8, .inl (va_cpy g2 f2 0 0 8))), (t_heavy, .inl (k 0, 8, .inl (va_cpy g3 f3 0 0 8))), (t_seenBy, .inl (k 0, 6, .inl (va_cpy g4 f4 0 0 6))), (t_seenCut, .inl (k 0, 6, .inl (va_cpy g5 f5 0 0 6))), (t_seenFound, .inl (k 0, 6, .inl (va_cpy g6 f6 0 0 6))), (o, .inr (5, [.ref o_weights, .ref o_kindOf, .ref o_light, .ref o_heavy, .ref o_seenBy, .ref o_seenCut, .ref o_seenFound, .int o_cellCount, .int o_peopleCount, .int o_slip, .int o_fine, .int o_appealCount, .int o_halfCount, .int o_pairCount, .int o_seenCount])), (o_weights, .inl (k 0, 8, .inl (g0))), (o_kindOf, .inl (k 0, 4, .inl (g1))), (o_light, .inl (k 0, 8, .inl (g2))), (o_heavy, .inl (k 0, 8, .inl (g3))), (o_seenBy, .inl (k 0, 6, .inl (g4))), (o_seenCut, .inl (k 0, 6, .inl (g5))), (o_seenFound, .inl (k 0, 6, .inl (g6)))] H := hP
  have hD : va_D A [(t, .inr (5, [.ref t_weights, .ref t_kindOf, .ref t_light, .ref t_heavy, .ref t_seenBy, .ref t_seenCut, .ref t_seenFound, .int o_cellCount, .int o_peopleCount, .int t_slip, .int t_fine, .int t_appealCount, .int t_halfCount, .int t_pairCount, .int t_seenCount])), (t_weights, .inl (k 0, 8, .inl (va_cpy g0 f0 0 0 8))), (t_kindOf, .inl (k 0, 4, .inl (va_cpy g1 f1 0 0 4))), (t_light, .inl (k 0, 8, .inl (va_cpy g2 f2 0 0 8))), (t_heavy, .inl (k 0, 8, .inl (va_cpy g3 f3 0 0 8))), (t_seenBy, .inl (k 0, 6, .inl (va_cpy g4 f4 0 0 6))), (t_seenCut, .inl (k 0, 6, .inl (va_cpy g5 f5 0 0 6))), (t_seenFound, .inl (k 0, 6, .inl (va_cpy g6 f6 0 0 6))), (o, .inr (5, [.ref o_weights, .ref o_kindOf, .ref o_light, .ref o_heavy, .ref o_seenBy, .ref o_seenCut, .ref o_seenFound, .int o_cellCount, .int o_peopleCount, .int o_slip, .int o_fine, .int o_appealCount, .int o_halfCount, .int o_pairCount, .int o_seenCount])), (o_weights, .inl (k 0, 8, .inl (g0))), (o_kindOf, .inl (k 0, 4, .inl (g1))), (o_light, .inl (k 0, 8, .inl (g2))), (o_heavy, .inl (k 0, 8, .inl (g3))), (o_seenBy, .inl (k 0, 6, .inl (g4))), (o_seenCut, .inl (k 0, 6, .inl (g5))), (o_seenFound, .inl (k 0, 6, .inl (g6)))] := hD
  refine lv_aload_n hx hb dX6_copyFrom_120 rfl (lv_at hl 0 rfl) ?_
  refine lv_aload_n hx hb dX6_copyFrom_121 rfl (lv_at hl 1 rfl) ?_
  refine va_get (D := D) (ci := 5) (v := .int o_slip) (C := RX6) (T := TX6) (N := 15) hx hb hts hiX6 hown hK hP 8 rfl rfl 9 (by decide) fl43 (fun _ h9 => h9) rfl dX6_copyFrom_122 ?_
  refine va_put (D := D) (ci := 5) (v := .int o_slip) (ty := .int) (C := RX6) (T := TX6) (N := 15) hx hb hts hiX6 tyX6 tyX6_ok nmX6 hown hK hP hD hS 0 rfl rfl 9 (by decide) fl43 (fun _ h9 => h9) rfl (by decide +kernel) rfl rfl (Nat.le_of_ble_eq_true rfl) dX6_copyFrom_125 (fun H locs hP hD hS => ?_)
  have hP : va_P D vwCl [(t, .inr (5, [.ref t_weights, .ref t_kindOf, .ref t_light, .ref t_heavy, .ref t_seenBy, .ref t_seenCut, .ref t_seenFound, .int o_cellCount, .int o_peopleCount, .int o_slip, .int t_fine, .int t_appealCount, .int t_halfCount, .int t_pairCount, .int t_seenCount])), (t_weights, .inl (k 0, 8, .inl (va_cpy g0 f0 0 0 8))), (t_kindOf, .inl (k 0, 4, .inl (va_cpy g1 f1 0 0 4))), (t_light, .inl (k 0, 8, .inl (va_cpy g2 f2 0 0 8))), (t_heavy, .inl (k 0, 8, .inl (va_cpy g3 f3 0 0 8))), (t_seenBy, .inl (k 0, 6, .inl (va_cpy g4 f4 0 0 6))), (t_seenCut, .inl (k 0, 6, .inl (va_cpy g5 f5 0 0 6))), (t_seenFound, .inl (k 0, 6, .inl (va_cpy g6 f6 0 0 6))), (o, .inr (5, [.ref o_weights, .ref o_kindOf, .ref o_light, .ref o_heavy, .ref o_seenBy, .ref o_seenCut, .ref o_seenFound, .int o_cellCount, .int o_peopleCount, .int o_slip, .int o_fine, .int o_appealCount, .int o_halfCount, .int o_pairCount, .int o_seenCount])), (o_weights, .inl (k 0, 8, .inl (g0))), (o_kindOf, .inl (k 0, 4, .inl (g1))), (o_light, .inl (k 0, 8, .inl (g2))), (o_heavy, .inl (k 0, 8, .inl (g3))), (o_seenBy, .inl (k 0, 6, .inl (g4))), (o_seenCut, .inl (k 0, 6, .inl (g5))), (o_seenFound, .inl (k 0, 6, .inl (g6)))] H := hP
  have hD : va_D A [(t, .inr (5, [.ref t_weights, .ref t_kindOf, .ref t_light, .ref t_heavy, .ref t_seenBy, .ref t_seenCut, .ref t_seenFound, .int o_cellCount, .int o_peopleCount, .int o_slip, .int t_fine, .int t_appealCount, .int t_halfCount, .int t_pairCount, .int t_seenCount])), (t_weights, .inl (k 0, 8, .inl (va_cpy g0 f0 0 0 8))), (t_kindOf, .inl (k 0, 4, .inl (va_cpy g1 f1 0 0 4))), (t_light, .inl (k 0, 8, .inl (va_cpy g2 f2 0 0 8))), (t_heavy, .inl (k 0, 8, .inl (va_cpy g3 f3 0 0 8))), (t_seenBy, .inl (k 0, 6, .inl (va_cpy g4 f4 0 0 6))), (t_seenCut, .inl (k 0, 6, .inl (va_cpy g5 f5 0 0 6))), (t_seenFound, .inl (k 0, 6, .inl (va_cpy g6 f6 0 0 6))), (o, .inr (5, [.ref o_weights, .ref o_kindOf, .ref o_light, .ref o_heavy, .ref o_seenBy, .ref o_seenCut, .ref o_seenFound, .int o_cellCount, .int o_peopleCount, .int o_slip, .int o_fine, .int o_appealCount, .int o_halfCount, .int o_pairCount, .int o_seenCount])), (o_weights, .inl (k 0, 8, .inl (g0))), (o_kindOf, .inl (k 0, 4, .inl (g1))), (o_light, .inl (k 0, 8, .inl (g2))), (o_heavy, .inl (k 0, 8, .inl (g3))), (o_seenBy, .inl (k 0, 6, .inl (g4))), (o_seenCut, .inl (k 0, 6, .inl (g5))), (o_seenFound, .inl (k 0, 6, .inl (g6)))] := hD
  refine lv_aload_n hx hb dX6_copyFrom_128 rfl (lv_at hl 0 rfl) ?_
  refine lv_aload_n hx hb dX6_copyFrom_129 rfl (lv_at hl 1 rfl) ?_
  refine va_get (D := D) (ci := 5) (v := .int o_fine) (C := RX6) (T := TX6) (N := 15) hx hb hts hiX6 hown hK hP 8 rfl rfl 10 (by decide) fl46 (fun _ h9 => h9) rfl dX6_copyFrom_130 ?_
  refine va_put (D := D) (ci := 5) (v := .int o_fine) (ty := .int) (C := RX6) (T := TX6) (N := 15) hx hb hts hiX6 tyX6 tyX6_ok nmX6 hown hK hP hD hS 0 rfl rfl 10 (by decide) fl46 (fun _ h9 => h9) rfl (by decide +kernel) rfl rfl (Nat.le_of_ble_eq_true rfl) dX6_copyFrom_133 (fun H locs hP hD hS => ?_)
  have hP : va_P D vwCl [(t, .inr (5, [.ref t_weights, .ref t_kindOf, .ref t_light, .ref t_heavy, .ref t_seenBy, .ref t_seenCut, .ref t_seenFound, .int o_cellCount, .int o_peopleCount, .int o_slip, .int o_fine, .int t_appealCount, .int t_halfCount, .int t_pairCount, .int t_seenCount])), (t_weights, .inl (k 0, 8, .inl (va_cpy g0 f0 0 0 8))), (t_kindOf, .inl (k 0, 4, .inl (va_cpy g1 f1 0 0 4))), (t_light, .inl (k 0, 8, .inl (va_cpy g2 f2 0 0 8))), (t_heavy, .inl (k 0, 8, .inl (va_cpy g3 f3 0 0 8))), (t_seenBy, .inl (k 0, 6, .inl (va_cpy g4 f4 0 0 6))), (t_seenCut, .inl (k 0, 6, .inl (va_cpy g5 f5 0 0 6))), (t_seenFound, .inl (k 0, 6, .inl (va_cpy g6 f6 0 0 6))), (o, .inr (5, [.ref o_weights, .ref o_kindOf, .ref o_light, .ref o_heavy, .ref o_seenBy, .ref o_seenCut, .ref o_seenFound, .int o_cellCount, .int o_peopleCount, .int o_slip, .int o_fine, .int o_appealCount, .int o_halfCount, .int o_pairCount, .int o_seenCount])), (o_weights, .inl (k 0, 8, .inl (g0))), (o_kindOf, .inl (k 0, 4, .inl (g1))), (o_light, .inl (k 0, 8, .inl (g2))), (o_heavy, .inl (k 0, 8, .inl (g3))), (o_seenBy, .inl (k 0, 6, .inl (g4))), (o_seenCut, .inl (k 0, 6, .inl (g5))), (o_seenFound, .inl (k 0, 6, .inl (g6)))] H := hP
  have hD : va_D A [(t, .inr (5, [.ref t_weights, .ref t_kindOf, .ref t_light, .ref t_heavy, .ref t_seenBy, .ref t_seenCut, .ref t_seenFound, .int o_cellCount, .int o_peopleCount, .int o_slip, .int o_fine, .int t_appealCount, .int t_halfCount, .int t_pairCount, .int t_seenCount])), (t_weights, .inl (k 0, 8, .inl (va_cpy g0 f0 0 0 8))), (t_kindOf, .inl (k 0, 4, .inl (va_cpy g1 f1 0 0 4))), (t_light, .inl (k 0, 8, .inl (va_cpy g2 f2 0 0 8))), (t_heavy, .inl (k 0, 8, .inl (va_cpy g3 f3 0 0 8))), (t_seenBy, .inl (k 0, 6, .inl (va_cpy g4 f4 0 0 6))), (t_seenCut, .inl (k 0, 6, .inl (va_cpy g5 f5 0 0 6))), (t_seenFound, .inl (k 0, 6, .inl (va_cpy g6 f6 0 0 6))), (o, .inr (5, [.ref o_weights, .ref o_kindOf, .ref o_light, .ref o_heavy, .ref o_seenBy, .ref o_seenCut, .ref o_seenFound, .int o_cellCount, .int o_peopleCount, .int o_slip, .int o_fine, .int o_appealCount, .int o_halfCount, .int o_pairCount, .int o_seenCount])), (o_weights, .inl (k 0, 8, .inl (g0))), (o_kindOf, .inl (k 0, 4, .inl (g1))), (o_light, .inl (k 0, 8, .inl (g2))), (o_heavy, .inl (k 0, 8, .inl (g3))), (o_seenBy, .inl (k 0, 6, .inl (g4))), (o_seenCut, .inl (k 0, 6, .inl (g5))), (o_seenFound, .inl (k 0, 6, .inl (g6)))] := hD
  refine lv_aload_n hx hb dX6_copyFrom_136 rfl (lv_at hl 0 rfl) ?_
  refine lv_aload_n hx hb dX6_copyFrom_137 rfl (lv_at hl 1 rfl) ?_
  refine va_get (D := D) (ci := 5) (v := .int o_appealCount) (C := RX6) (T := TX6) (N := 15) hx hb hts hiX6 hown hK hP 8 rfl rfl 11 (by decide) fl49 (fun _ h9 => h9) rfl dX6_copyFrom_138 ?_
  refine va_put (D := D) (ci := 5) (v := .int o_appealCount) (ty := .int) (C := RX6) (T := TX6) (N := 15) hx hb hts hiX6 tyX6 tyX6_ok nmX6 hown hK hP hD hS 0 rfl rfl 11 (by decide) fl49 (fun _ h9 => h9) rfl (by decide +kernel) rfl rfl (Nat.le_of_ble_eq_true rfl) dX6_copyFrom_141 (fun H locs hP hD hS => ?_)
  have hP : va_P D vwCl [(t, .inr (5, [.ref t_weights, .ref t_kindOf, .ref t_light, .ref t_heavy, .ref t_seenBy, .ref t_seenCut, .ref t_seenFound, .int o_cellCount, .int o_peopleCount, .int o_slip, .int o_fine, .int o_appealCount, .int t_halfCount, .int t_pairCount, .int t_seenCount])), (t_weights, .inl (k 0, 8, .inl (va_cpy g0 f0 0 0 8))), (t_kindOf, .inl (k 0, 4, .inl (va_cpy g1 f1 0 0 4))), (t_light, .inl (k 0, 8, .inl (va_cpy g2 f2 0 0 8))), (t_heavy, .inl (k 0, 8, .inl (va_cpy g3 f3 0 0 8))), (t_seenBy, .inl (k 0, 6, .inl (va_cpy g4 f4 0 0 6))), (t_seenCut, .inl (k 0, 6, .inl (va_cpy g5 f5 0 0 6))), (t_seenFound, .inl (k 0, 6, .inl (va_cpy g6 f6 0 0 6))), (o, .inr (5, [.ref o_weights, .ref o_kindOf, .ref o_light, .ref o_heavy, .ref o_seenBy, .ref o_seenCut, .ref o_seenFound, .int o_cellCount, .int o_peopleCount, .int o_slip, .int o_fine, .int o_appealCount, .int o_halfCount, .int o_pairCount, .int o_seenCount])), (o_weights, .inl (k 0, 8, .inl (g0))), (o_kindOf, .inl (k 0, 4, .inl (g1))), (o_light, .inl (k 0, 8, .inl (g2))), (o_heavy, .inl (k 0, 8, .inl (g3))), (o_seenBy, .inl (k 0, 6, .inl (g4))), (o_seenCut, .inl (k 0, 6, .inl (g5))), (o_seenFound, .inl (k 0, 6, .inl (g6)))] H := hP
  have hD : va_D A [(t, .inr (5, [.ref t_weights, .ref t_kindOf, .ref t_light, .ref t_heavy, .ref t_seenBy, .ref t_seenCut, .ref t_seenFound, .int o_cellCount, .int o_peopleCount, .int o_slip, .int o_fine, .int o_appealCount, .int t_halfCount, .int t_pairCount, .int t_seenCount])), (t_weights, .inl (k 0, 8, .inl (va_cpy g0 f0 0 0 8))), (t_kindOf, .inl (k 0, 4, .inl (va_cpy g1 f1 0 0 4))), (t_light, .inl (k 0, 8, .inl (va_cpy g2 f2 0 0 8))), (t_heavy, .inl (k 0, 8, .inl (va_cpy g3 f3 0 0 8))), (t_seenBy, .inl (k 0, 6, .inl (va_cpy g4 f4 0 0 6))), (t_seenCut, .inl (k 0, 6, .inl (va_cpy g5 f5 0 0 6))), (t_seenFound, .inl (k 0, 6, .inl (va_cpy g6 f6 0 0 6))), (o, .inr (5, [.ref o_weights, .ref o_kindOf, .ref o_light, .ref o_heavy, .ref o_seenBy, .ref o_seenCut, .ref o_seenFound, .int o_cellCount, .int o_peopleCount, .int o_slip, .int o_fine, .int o_appealCount, .int o_halfCount, .int o_pairCount, .int o_seenCount])), (o_weights, .inl (k 0, 8, .inl (g0))), (o_kindOf, .inl (k 0, 4, .inl (g1))), (o_light, .inl (k 0, 8, .inl (g2))), (o_heavy, .inl (k 0, 8, .inl (g3))), (o_seenBy, .inl (k 0, 6, .inl (g4))), (o_seenCut, .inl (k 0, 6, .inl (g5))), (o_seenFound, .inl (k 0, 6, .inl (g6)))] := hD
  refine lv_aload_n hx hb dX6_copyFrom_144 rfl (lv_at hl 0 rfl) ?_
  refine lv_aload_n hx hb dX6_copyFrom_145 rfl (lv_at hl 1 rfl) ?_
  refine va_get (D := D) (ci := 5) (v := .int o_halfCount) (C := RX6) (T := TX6) (N := 15) hx hb hts hiX6 hown hK hP 8 rfl rfl 12 (by decide) fl52 (fun _ h9 => h9) rfl dX6_copyFrom_146 ?_
  refine va_put (D := D) (ci := 5) (v := .int o_halfCount) (ty := .int) (C := RX6) (T := TX6) (N := 15) hx hb hts hiX6 tyX6 tyX6_ok nmX6 hown hK hP hD hS 0 rfl rfl 12 (by decide) fl52 (fun _ h9 => h9) rfl (by decide +kernel) rfl rfl (Nat.le_of_ble_eq_true rfl) dX6_copyFrom_149 (fun H locs hP hD hS => ?_)
  have hP : va_P D vwCl [(t, .inr (5, [.ref t_weights, .ref t_kindOf, .ref t_light, .ref t_heavy, .ref t_seenBy, .ref t_seenCut, .ref t_seenFound, .int o_cellCount, .int o_peopleCount, .int o_slip, .int o_fine, .int o_appealCount, .int o_halfCount, .int t_pairCount, .int t_seenCount])), (t_weights, .inl (k 0, 8, .inl (va_cpy g0 f0 0 0 8))), (t_kindOf, .inl (k 0, 4, .inl (va_cpy g1 f1 0 0 4))), (t_light, .inl (k 0, 8, .inl (va_cpy g2 f2 0 0 8))), (t_heavy, .inl (k 0, 8, .inl (va_cpy g3 f3 0 0 8))), (t_seenBy, .inl (k 0, 6, .inl (va_cpy g4 f4 0 0 6))), (t_seenCut, .inl (k 0, 6, .inl (va_cpy g5 f5 0 0 6))), (t_seenFound, .inl (k 0, 6, .inl (va_cpy g6 f6 0 0 6))), (o, .inr (5, [.ref o_weights, .ref o_kindOf, .ref o_light, .ref o_heavy, .ref o_seenBy, .ref o_seenCut, .ref o_seenFound, .int o_cellCount, .int o_peopleCount, .int o_slip, .int o_fine, .int o_appealCount, .int o_halfCount, .int o_pairCount, .int o_seenCount])), (o_weights, .inl (k 0, 8, .inl (g0))), (o_kindOf, .inl (k 0, 4, .inl (g1))), (o_light, .inl (k 0, 8, .inl (g2))), (o_heavy, .inl (k 0, 8, .inl (g3))), (o_seenBy, .inl (k 0, 6, .inl (g4))), (o_seenCut, .inl (k 0, 6, .inl (g5))), (o_seenFound, .inl (k 0, 6, .inl (g6)))] H := hP
  have hD : va_D A [(t, .inr (5, [.ref t_weights, .ref t_kindOf, .ref t_light, .ref t_heavy, .ref t_seenBy, .ref t_seenCut, .ref t_seenFound, .int o_cellCount, .int o_peopleCount, .int o_slip, .int o_fine, .int o_appealCount, .int o_halfCount, .int t_pairCount, .int t_seenCount])), (t_weights, .inl (k 0, 8, .inl (va_cpy g0 f0 0 0 8))), (t_kindOf, .inl (k 0, 4, .inl (va_cpy g1 f1 0 0 4))), (t_light, .inl (k 0, 8, .inl (va_cpy g2 f2 0 0 8))), (t_heavy, .inl (k 0, 8, .inl (va_cpy g3 f3 0 0 8))), (t_seenBy, .inl (k 0, 6, .inl (va_cpy g4 f4 0 0 6))), (t_seenCut, .inl (k 0, 6, .inl (va_cpy g5 f5 0 0 6))), (t_seenFound, .inl (k 0, 6, .inl (va_cpy g6 f6 0 0 6))), (o, .inr (5, [.ref o_weights, .ref o_kindOf, .ref o_light, .ref o_heavy, .ref o_seenBy, .ref o_seenCut, .ref o_seenFound, .int o_cellCount, .int o_peopleCount, .int o_slip, .int o_fine, .int o_appealCount, .int o_halfCount, .int o_pairCount, .int o_seenCount])), (o_weights, .inl (k 0, 8, .inl (g0))), (o_kindOf, .inl (k 0, 4, .inl (g1))), (o_light, .inl (k 0, 8, .inl (g2))), (o_heavy, .inl (k 0, 8, .inl (g3))), (o_seenBy, .inl (k 0, 6, .inl (g4))), (o_seenCut, .inl (k 0, 6, .inl (g5))), (o_seenFound, .inl (k 0, 6, .inl (g6)))] := hD
  refine lv_aload_n hx hb dX6_copyFrom_152 rfl (lv_at hl 0 rfl) ?_
  refine lv_aload_n hx hb dX6_copyFrom_153 rfl (lv_at hl 1 rfl) ?_
  refine va_get (D := D) (ci := 5) (v := .int o_pairCount) (C := RX6) (T := TX6) (N := 15) hx hb hts hiX6 hown hK hP 8 rfl rfl 13 (by decide) fl55 (fun _ h9 => h9) rfl dX6_copyFrom_154 ?_
  refine va_put (D := D) (ci := 5) (v := .int o_pairCount) (ty := .int) (C := RX6) (T := TX6) (N := 15) hx hb hts hiX6 tyX6 tyX6_ok nmX6 hown hK hP hD hS 0 rfl rfl 13 (by decide) fl55 (fun _ h9 => h9) rfl (by decide +kernel) rfl rfl (Nat.le_of_ble_eq_true rfl) dX6_copyFrom_157 (fun H locs hP hD hS => ?_)
  have hP : va_P D vwCl [(t, .inr (5, [.ref t_weights, .ref t_kindOf, .ref t_light, .ref t_heavy, .ref t_seenBy, .ref t_seenCut, .ref t_seenFound, .int o_cellCount, .int o_peopleCount, .int o_slip, .int o_fine, .int o_appealCount, .int o_halfCount, .int o_pairCount, .int t_seenCount])), (t_weights, .inl (k 0, 8, .inl (va_cpy g0 f0 0 0 8))), (t_kindOf, .inl (k 0, 4, .inl (va_cpy g1 f1 0 0 4))), (t_light, .inl (k 0, 8, .inl (va_cpy g2 f2 0 0 8))), (t_heavy, .inl (k 0, 8, .inl (va_cpy g3 f3 0 0 8))), (t_seenBy, .inl (k 0, 6, .inl (va_cpy g4 f4 0 0 6))), (t_seenCut, .inl (k 0, 6, .inl (va_cpy g5 f5 0 0 6))), (t_seenFound, .inl (k 0, 6, .inl (va_cpy g6 f6 0 0 6))), (o, .inr (5, [.ref o_weights, .ref o_kindOf, .ref o_light, .ref o_heavy, .ref o_seenBy, .ref o_seenCut, .ref o_seenFound, .int o_cellCount, .int o_peopleCount, .int o_slip, .int o_fine, .int o_appealCount, .int o_halfCount, .int o_pairCount, .int o_seenCount])), (o_weights, .inl (k 0, 8, .inl (g0))), (o_kindOf, .inl (k 0, 4, .inl (g1))), (o_light, .inl (k 0, 8, .inl (g2))), (o_heavy, .inl (k 0, 8, .inl (g3))), (o_seenBy, .inl (k 0, 6, .inl (g4))), (o_seenCut, .inl (k 0, 6, .inl (g5))), (o_seenFound, .inl (k 0, 6, .inl (g6)))] H := hP
  have hD : va_D A [(t, .inr (5, [.ref t_weights, .ref t_kindOf, .ref t_light, .ref t_heavy, .ref t_seenBy, .ref t_seenCut, .ref t_seenFound, .int o_cellCount, .int o_peopleCount, .int o_slip, .int o_fine, .int o_appealCount, .int o_halfCount, .int o_pairCount, .int t_seenCount])), (t_weights, .inl (k 0, 8, .inl (va_cpy g0 f0 0 0 8))), (t_kindOf, .inl (k 0, 4, .inl (va_cpy g1 f1 0 0 4))), (t_light, .inl (k 0, 8, .inl (va_cpy g2 f2 0 0 8))), (t_heavy, .inl (k 0, 8, .inl (va_cpy g3 f3 0 0 8))), (t_seenBy, .inl (k 0, 6, .inl (va_cpy g4 f4 0 0 6))), (t_seenCut, .inl (k 0, 6, .inl (va_cpy g5 f5 0 0 6))), (t_seenFound, .inl (k 0, 6, .inl (va_cpy g6 f6 0 0 6))), (o, .inr (5, [.ref o_weights, .ref o_kindOf, .ref o_light, .ref o_heavy, .ref o_seenBy, .ref o_seenCut, .ref o_seenFound, .int o_cellCount, .int o_peopleCount, .int o_slip, .int o_fine, .int o_appealCount, .int o_halfCount, .int o_pairCount, .int o_seenCount])), (o_weights, .inl (k 0, 8, .inl (g0))), (o_kindOf, .inl (k 0, 4, .inl (g1))), (o_light, .inl (k 0, 8, .inl (g2))), (o_heavy, .inl (k 0, 8, .inl (g3))), (o_seenBy, .inl (k 0, 6, .inl (g4))), (o_seenCut, .inl (k 0, 6, .inl (g5))), (o_seenFound, .inl (k 0, 6, .inl (g6)))] := hD
  refine lv_aload_n hx hb dX6_copyFrom_160 rfl (lv_at hl 0 rfl) ?_
  refine lv_aload_n hx hb dX6_copyFrom_161 rfl (lv_at hl 1 rfl) ?_
  refine va_get (D := D) (ci := 5) (v := .int o_seenCount) (C := RX6) (T := TX6) (N := 15) hx hb hts hiX6 hown hK hP 8 rfl rfl 14 (by decide) fl58 (fun _ h9 => h9) rfl dX6_copyFrom_162 ?_
  refine va_put (D := D) (ci := 5) (v := .int o_seenCount) (ty := .int) (C := RX6) (T := TX6) (N := 15) hx hb hts hiX6 tyX6 tyX6_ok nmX6 hown hK hP hD hS 0 rfl rfl 14 (by decide) fl58 (fun _ h9 => h9) rfl (by decide +kernel) rfl rfl (Nat.le_of_ble_eq_true rfl) dX6_copyFrom_165 (fun H locs hP hD hS => ?_)
  have hP : va_P D vwCl [(t, .inr (5, [.ref t_weights, .ref t_kindOf, .ref t_light, .ref t_heavy, .ref t_seenBy, .ref t_seenCut, .ref t_seenFound, .int o_cellCount, .int o_peopleCount, .int o_slip, .int o_fine, .int o_appealCount, .int o_halfCount, .int o_pairCount, .int o_seenCount])), (t_weights, .inl (k 0, 8, .inl (va_cpy g0 f0 0 0 8))), (t_kindOf, .inl (k 0, 4, .inl (va_cpy g1 f1 0 0 4))), (t_light, .inl (k 0, 8, .inl (va_cpy g2 f2 0 0 8))), (t_heavy, .inl (k 0, 8, .inl (va_cpy g3 f3 0 0 8))), (t_seenBy, .inl (k 0, 6, .inl (va_cpy g4 f4 0 0 6))), (t_seenCut, .inl (k 0, 6, .inl (va_cpy g5 f5 0 0 6))), (t_seenFound, .inl (k 0, 6, .inl (va_cpy g6 f6 0 0 6))), (o, .inr (5, [.ref o_weights, .ref o_kindOf, .ref o_light, .ref o_heavy, .ref o_seenBy, .ref o_seenCut, .ref o_seenFound, .int o_cellCount, .int o_peopleCount, .int o_slip, .int o_fine, .int o_appealCount, .int o_halfCount, .int o_pairCount, .int o_seenCount])), (o_weights, .inl (k 0, 8, .inl (g0))), (o_kindOf, .inl (k 0, 4, .inl (g1))), (o_light, .inl (k 0, 8, .inl (g2))), (o_heavy, .inl (k 0, 8, .inl (g3))), (o_seenBy, .inl (k 0, 6, .inl (g4))), (o_seenCut, .inl (k 0, 6, .inl (g5))), (o_seenFound, .inl (k 0, 6, .inl (g6)))] H := hP
  have hD : va_D A [(t, .inr (5, [.ref t_weights, .ref t_kindOf, .ref t_light, .ref t_heavy, .ref t_seenBy, .ref t_seenCut, .ref t_seenFound, .int o_cellCount, .int o_peopleCount, .int o_slip, .int o_fine, .int o_appealCount, .int o_halfCount, .int o_pairCount, .int o_seenCount])), (t_weights, .inl (k 0, 8, .inl (va_cpy g0 f0 0 0 8))), (t_kindOf, .inl (k 0, 4, .inl (va_cpy g1 f1 0 0 4))), (t_light, .inl (k 0, 8, .inl (va_cpy g2 f2 0 0 8))), (t_heavy, .inl (k 0, 8, .inl (va_cpy g3 f3 0 0 8))), (t_seenBy, .inl (k 0, 6, .inl (va_cpy g4 f4 0 0 6))), (t_seenCut, .inl (k 0, 6, .inl (va_cpy g5 f5 0 0 6))), (t_seenFound, .inl (k 0, 6, .inl (va_cpy g6 f6 0 0 6))), (o, .inr (5, [.ref o_weights, .ref o_kindOf, .ref o_light, .ref o_heavy, .ref o_seenBy, .ref o_seenCut, .ref o_seenFound, .int o_cellCount, .int o_peopleCount, .int o_slip, .int o_fine, .int o_appealCount, .int o_halfCount, .int o_pairCount, .int o_seenCount])), (o_weights, .inl (k 0, 8, .inl (g0))), (o_kindOf, .inl (k 0, 4, .inl (g1))), (o_light, .inl (k 0, 8, .inl (g2))), (o_heavy, .inl (k 0, 8, .inl (g3))), (o_seenBy, .inl (k 0, 6, .inl (g4))), (o_seenCut, .inl (k 0, 6, .inl (g5))), (o_seenFound, .inl (k 0, 6, .inl (g6)))] := hD
  exact hs_vret hx hb hr hlocks hK hP hD hS () [0, 1, 2, 3, 4, 5, 6, 7, 8, 9, 10, 11, 12, 13, 14, 15] rfl (by decide) dX6_copyFrom_168 (trivial)

set_option maxHeartbeats 4000000 in
set_option maxRecDepth 100000 in
theorem c_bitCount (l : Launch) (D : va_G) (k : Nat → ClassId) (sz : Nat) (v : Int32)  : MI l yJ6_bitCount_0f7a4 wsJ6_bitCount_0f7a4 ({ frames := 0, cells := 0, slots := 0, locals := 0 }) D k [.int v] [] sz (fun (r : Int32) (u : Unit) => r = (((((((v - (((((v) : Int32).toUInt32 >>> (((1) : Int32).toUInt32 &&& Int32.toUInt32 31)).toInt32) &&& 1431655765)) &&& 858993459) + (((((v - (((((v) : Int32).toUInt32 >>> (((1) : Int32).toUInt32 &&& Int32.toUInt32 31)).toInt32) &&& 1431655765)) : Int32).toUInt32 >>> (((2) : Int32).toUInt32 &&& Int32.toUInt32 31)).toInt32) &&& 858993459)) + ((((((v - (((((v) : Int32).toUInt32 >>> (((1) : Int32).toUInt32 &&& Int32.toUInt32 31)).toInt32) &&& 1431655765)) &&& 858993459) + (((((v - (((((v) : Int32).toUInt32 >>> (((1) : Int32).toUInt32 &&& Int32.toUInt32 31)).toInt32) &&& 1431655765)) : Int32).toUInt32 >>> (((2) : Int32).toUInt32 &&& Int32.toUInt32 31)).toInt32) &&& 858993459)) : Int32).toUInt32 >>> (((4) : Int32).toUInt32 &&& Int32.toUInt32 31)).toInt32)) &&& 252645135) + ((((((((v - (((((v) : Int32).toUInt32 >>> (((1) : Int32).toUInt32 &&& Int32.toUInt32 31)).toInt32) &&& 1431655765)) &&& 858993459) + (((((v - (((((v) : Int32).toUInt32 >>> (((1) : Int32).toUInt32 &&& Int32.toUInt32 31)).toInt32) &&& 1431655765)) : Int32).toUInt32 >>> (((2) : Int32).toUInt32 &&& Int32.toUInt32 31)).toInt32) &&& 858993459)) + ((((((v - (((((v) : Int32).toUInt32 >>> (((1) : Int32).toUInt32 &&& Int32.toUInt32 31)).toInt32) &&& 1431655765)) &&& 858993459) + (((((v - (((((v) : Int32).toUInt32 >>> (((1) : Int32).toUInt32 &&& Int32.toUInt32 31)).toInt32) &&& 1431655765)) : Int32).toUInt32 >>> (((2) : Int32).toUInt32 &&& Int32.toUInt32 31)).toInt32) &&& 858993459)) : Int32).toUInt32 >>> (((4) : Int32).toUInt32 &&& Int32.toUInt32 31)).toInt32)) &&& 252645135) : Int32).toUInt32 >>> (((8) : Int32).toUInt32 &&& Int32.toUInt32 31)).toInt32)) + (((((((((v - (((((v) : Int32).toUInt32 >>> (((1) : Int32).toUInt32 &&& Int32.toUInt32 31)).toInt32) &&& 1431655765)) &&& 858993459) + (((((v - (((((v) : Int32).toUInt32 >>> (((1) : Int32).toUInt32 &&& Int32.toUInt32 31)).toInt32) &&& 1431655765)) : Int32).toUInt32 >>> (((2) : Int32).toUInt32 &&& Int32.toUInt32 31)).toInt32) &&& 858993459)) + ((((((v - (((((v) : Int32).toUInt32 >>> (((1) : Int32).toUInt32 &&& Int32.toUInt32 31)).toInt32) &&& 1431655765)) &&& 858993459) + (((((v - (((((v) : Int32).toUInt32 >>> (((1) : Int32).toUInt32 &&& Int32.toUInt32 31)).toInt32) &&& 1431655765)) : Int32).toUInt32 >>> (((2) : Int32).toUInt32 &&& Int32.toUInt32 31)).toInt32) &&& 858993459)) : Int32).toUInt32 >>> (((4) : Int32).toUInt32 &&& Int32.toUInt32 31)).toInt32)) &&& 252645135) + ((((((((v - (((((v) : Int32).toUInt32 >>> (((1) : Int32).toUInt32 &&& Int32.toUInt32 31)).toInt32) &&& 1431655765)) &&& 858993459) + (((((v - (((((v) : Int32).toUInt32 >>> (((1) : Int32).toUInt32 &&& Int32.toUInt32 31)).toInt32) &&& 1431655765)) : Int32).toUInt32 >>> (((2) : Int32).toUInt32 &&& Int32.toUInt32 31)).toInt32) &&& 858993459)) + ((((((v - (((((v) : Int32).toUInt32 >>> (((1) : Int32).toUInt32 &&& Int32.toUInt32 31)).toInt32) &&& 1431655765)) &&& 858993459) + (((((v - (((((v) : Int32).toUInt32 >>> (((1) : Int32).toUInt32 &&& Int32.toUInt32 31)).toInt32) &&& 1431655765)) : Int32).toUInt32 >>> (((2) : Int32).toUInt32 &&& Int32.toUInt32 31)).toInt32) &&& 858993459)) : Int32).toUInt32 >>> (((4) : Int32).toUInt32 &&& Int32.toUInt32 31)).toInt32)) &&& 252645135) : Int32).toUInt32 >>> (((8) : Int32).toUInt32 &&& Int32.toUInt32 31)).toInt32)) : Int32).toUInt32 >>> (((16) : Int32).toUInt32 &&& Int32.toUInt32 31)).toInt32)) &&& 63) (fun (u : Unit) => []) := by
  refine Met.ofW (cc := cJ6_bitCount_0f7a4) (maxL := 1) (ret := (some .int)) (by decide) rfl ?_
  intro p e s m args below meth c s₁ B hml hv
  obtain ⟨rfl, hsz, hP, hK, hD0, hN⟩ := hv
  have hx := B.exec
  have hb := B.bytes
  have hr := B.returns
  have hlocks := B.notSynchronized
  have hts := atoms_spec (ws := wsJ6_bitCount_0f7a4) B.pre
  have hown : s.vm.findClass RJ6 = some m.cls := findClass_of_methodNamed B.named
  have kc265 := hts (.constant RJ6 265 (1431655765)) (by decide +kernel)
  have kc266 := hts (.constant RJ6 266 (858993459)) (by decide +kernel)
  have kc267 := hts (.constant RJ6 267 (252645135)) (by decide +kernel)
  subst hsz
  have hD := hD0.self (sz := s.heap.size)
  generalize hAe : va_A [] s.heap.size = A at hD ⊢
  have hA : ∀ q : Nat, s.heap.size ≤ q → A q := fun q h => by rw [← hAe]; exact Or.inr h
  have hS : va_S A s.heap s.heap [] := va_S.rf
  have hl := lv_entry ([.int v]) (n := 1) (Nat.le_of_ble_eq_true rfl)
  rw [lg_entry_eq]
  generalize (lg_sl ([.int v]) ++ List.replicate (1 - (lg_sl ([.int v])).length) Slot.unset).toArray = ls at hl ⊢
  have hl : lv_has ls 1 [(0, .int v)] := hl
  have hP : va_P D vwCl [] s.heap := hP
  refine lv_iload_n hx hb dJ6_bitCount_0f7a4_0 rfl (lv_at hl 0 rfl) ?_
  refine lv_iload_n hx hb dJ6_bitCount_0f7a4_1 rfl (lv_at hl 0 rfl) ?_
  refine lv_iconst (v := 1) hx hb dJ6_bitCount_0f7a4_2 (by decide) ?_
  refine lv_iushr hx hb dJ6_bitCount_0f7a4_3 rfl ?_
  refine lv_ldcw hx hb hown kc265 dJ6_bitCount_0f7a4_4 ?_
  refine lv_iand hx hb dJ6_bitCount_0f7a4_7 ?_
  refine lv_isub hx hb dJ6_bitCount_0f7a4_8 ?_
  refine lv_istore_n (lv' := [(0, .int (v - (((((v) : Int32).toUInt32 >>> (((1) : Int32).toUInt32 &&& Int32.toUInt32 31)).toInt32) &&& 1431655765)))]) hx hb dJ6_bitCount_0f7a4_9 rfl hl (by decide) rfl (fun ls hl => ?_)
  refine lv_iload_n hx hb dJ6_bitCount_0f7a4_10 rfl (lv_at hl 0 rfl) ?_
  refine lv_ldcw hx hb hown kc266 dJ6_bitCount_0f7a4_11 ?_
  refine lv_iand hx hb dJ6_bitCount_0f7a4_14 ?_
  refine lv_iload_n hx hb dJ6_bitCount_0f7a4_15 rfl (lv_at hl 0 rfl) ?_
  refine lv_iconst (v := 2) hx hb dJ6_bitCount_0f7a4_16 (by decide) ?_
  refine lv_iushr hx hb dJ6_bitCount_0f7a4_17 rfl ?_
  refine lv_ldcw hx hb hown kc266 dJ6_bitCount_0f7a4_18 ?_
  refine lv_iand hx hb dJ6_bitCount_0f7a4_21 ?_
  refine lv_iadd hx hb dJ6_bitCount_0f7a4_22 ?_
  refine lv_istore_n (lv' := [(0, .int (((v - (((((v) : Int32).toUInt32 >>> (((1) : Int32).toUInt32 &&& Int32.toUInt32 31)).toInt32) &&& 1431655765)) &&& 858993459) + (((((v - (((((v) : Int32).toUInt32 >>> (((1) : Int32).toUInt32 &&& Int32.toUInt32 31)).toInt32) &&& 1431655765)) : Int32).toUInt32 >>> (((2) : Int32).toUInt32 &&& Int32.toUInt32 31)).toInt32) &&& 858993459)))]) hx hb dJ6_bitCount_0f7a4_23 rfl hl (by decide) rfl (fun ls hl => ?_)
  refine lv_iload_n hx hb dJ6_bitCount_0f7a4_24 rfl (lv_at hl 0 rfl) ?_
  refine lv_iload_n hx hb dJ6_bitCount_0f7a4_25 rfl (lv_at hl 0 rfl) ?_
  refine lv_iconst (v := 4) hx hb dJ6_bitCount_0f7a4_26 (by decide) ?_
  refine lv_iushr hx hb dJ6_bitCount_0f7a4_27 rfl ?_
  refine lv_iadd hx hb dJ6_bitCount_0f7a4_28 ?_
  refine lv_ldcw hx hb hown kc267 dJ6_bitCount_0f7a4_29 ?_
  refine lv_iand hx hb dJ6_bitCount_0f7a4_32 ?_
  refine lv_istore_n (lv' := [(0, .int (((((v - (((((v) : Int32).toUInt32 >>> (((1) : Int32).toUInt32 &&& Int32.toUInt32 31)).toInt32) &&& 1431655765)) &&& 858993459) + (((((v - (((((v) : Int32).toUInt32 >>> (((1) : Int32).toUInt32 &&& Int32.toUInt32 31)).toInt32) &&& 1431655765)) : Int32).toUInt32 >>> (((2) : Int32).toUInt32 &&& Int32.toUInt32 31)).toInt32) &&& 858993459)) + ((((((v - (((((v) : Int32).toUInt32 >>> (((1) : Int32).toUInt32 &&& Int32.toUInt32 31)).toInt32) &&& 1431655765)) &&& 858993459) + (((((v - (((((v) : Int32).toUInt32 >>> (((1) : Int32).toUInt32 &&& Int32.toUInt32 31)).toInt32) &&& 1431655765)) : Int32).toUInt32 >>> (((2) : Int32).toUInt32 &&& Int32.toUInt32 31)).toInt32) &&& 858993459)) : Int32).toUInt32 >>> (((4) : Int32).toUInt32 &&& Int32.toUInt32 31)).toInt32)) &&& 252645135))]) hx hb dJ6_bitCount_0f7a4_33 rfl hl (by decide) rfl (fun ls hl => ?_)
  refine lv_iload_n hx hb dJ6_bitCount_0f7a4_34 rfl (lv_at hl 0 rfl) ?_
  refine lv_iload_n hx hb dJ6_bitCount_0f7a4_35 rfl (lv_at hl 0 rfl) ?_
  refine lv_bipush (v := 8) hx hb dJ6_bitCount_0f7a4_36 (by decide) ?_
  refine lv_iushr hx hb dJ6_bitCount_0f7a4_38 rfl ?_
  refine lv_iadd hx hb dJ6_bitCount_0f7a4_39 ?_
  refine lv_istore_n (lv' := [(0, .int ((((((v - (((((v) : Int32).toUInt32 >>> (((1) : Int32).toUInt32 &&& Int32.toUInt32 31)).toInt32) &&& 1431655765)) &&& 858993459) + (((((v - (((((v) : Int32).toUInt32 >>> (((1) : Int32).toUInt32 &&& Int32.toUInt32 31)).toInt32) &&& 1431655765)) : Int32).toUInt32 >>> (((2) : Int32).toUInt32 &&& Int32.toUInt32 31)).toInt32) &&& 858993459)) + ((((((v - (((((v) : Int32).toUInt32 >>> (((1) : Int32).toUInt32 &&& Int32.toUInt32 31)).toInt32) &&& 1431655765)) &&& 858993459) + (((((v - (((((v) : Int32).toUInt32 >>> (((1) : Int32).toUInt32 &&& Int32.toUInt32 31)).toInt32) &&& 1431655765)) : Int32).toUInt32 >>> (((2) : Int32).toUInt32 &&& Int32.toUInt32 31)).toInt32) &&& 858993459)) : Int32).toUInt32 >>> (((4) : Int32).toUInt32 &&& Int32.toUInt32 31)).toInt32)) &&& 252645135) + ((((((((v - (((((v) : Int32).toUInt32 >>> (((1) : Int32).toUInt32 &&& Int32.toUInt32 31)).toInt32) &&& 1431655765)) &&& 858993459) + (((((v - (((((v) : Int32).toUInt32 >>> (((1) : Int32).toUInt32 &&& Int32.toUInt32 31)).toInt32) &&& 1431655765)) : Int32).toUInt32 >>> (((2) : Int32).toUInt32 &&& Int32.toUInt32 31)).toInt32) &&& 858993459)) + ((((((v - (((((v) : Int32).toUInt32 >>> (((1) : Int32).toUInt32 &&& Int32.toUInt32 31)).toInt32) &&& 1431655765)) &&& 858993459) + (((((v - (((((v) : Int32).toUInt32 >>> (((1) : Int32).toUInt32 &&& Int32.toUInt32 31)).toInt32) &&& 1431655765)) : Int32).toUInt32 >>> (((2) : Int32).toUInt32 &&& Int32.toUInt32 31)).toInt32) &&& 858993459)) : Int32).toUInt32 >>> (((4) : Int32).toUInt32 &&& Int32.toUInt32 31)).toInt32)) &&& 252645135) : Int32).toUInt32 >>> (((8) : Int32).toUInt32 &&& Int32.toUInt32 31)).toInt32)))]) hx hb dJ6_bitCount_0f7a4_40 rfl hl (by decide) rfl (fun ls hl => ?_)
  refine lv_iload_n hx hb dJ6_bitCount_0f7a4_41 rfl (lv_at hl 0 rfl) ?_
  refine lv_iload_n hx hb dJ6_bitCount_0f7a4_42 rfl (lv_at hl 0 rfl) ?_
  refine lv_bipush (v := 16) hx hb dJ6_bitCount_0f7a4_43 (by decide) ?_
  refine lv_iushr hx hb dJ6_bitCount_0f7a4_45 rfl ?_
  refine lv_iadd hx hb dJ6_bitCount_0f7a4_46 ?_
  refine lv_istore_n (lv' := [(0, .int (((((((v - (((((v) : Int32).toUInt32 >>> (((1) : Int32).toUInt32 &&& Int32.toUInt32 31)).toInt32) &&& 1431655765)) &&& 858993459) + (((((v - (((((v) : Int32).toUInt32 >>> (((1) : Int32).toUInt32 &&& Int32.toUInt32 31)).toInt32) &&& 1431655765)) : Int32).toUInt32 >>> (((2) : Int32).toUInt32 &&& Int32.toUInt32 31)).toInt32) &&& 858993459)) + ((((((v - (((((v) : Int32).toUInt32 >>> (((1) : Int32).toUInt32 &&& Int32.toUInt32 31)).toInt32) &&& 1431655765)) &&& 858993459) + (((((v - (((((v) : Int32).toUInt32 >>> (((1) : Int32).toUInt32 &&& Int32.toUInt32 31)).toInt32) &&& 1431655765)) : Int32).toUInt32 >>> (((2) : Int32).toUInt32 &&& Int32.toUInt32 31)).toInt32) &&& 858993459)) : Int32).toUInt32 >>> (((4) : Int32).toUInt32 &&& Int32.toUInt32 31)).toInt32)) &&& 252645135) + ((((((((v - (((((v) : Int32).toUInt32 >>> (((1) : Int32).toUInt32 &&& Int32.toUInt32 31)).toInt32) &&& 1431655765)) &&& 858993459) + (((((v - (((((v) : Int32).toUInt32 >>> (((1) : Int32).toUInt32 &&& Int32.toUInt32 31)).toInt32) &&& 1431655765)) : Int32).toUInt32 >>> (((2) : Int32).toUInt32 &&& Int32.toUInt32 31)).toInt32) &&& 858993459)) + ((((((v - (((((v) : Int32).toUInt32 >>> (((1) : Int32).toUInt32 &&& Int32.toUInt32 31)).toInt32) &&& 1431655765)) &&& 858993459) + (((((v - (((((v) : Int32).toUInt32 >>> (((1) : Int32).toUInt32 &&& Int32.toUInt32 31)).toInt32) &&& 1431655765)) : Int32).toUInt32 >>> (((2) : Int32).toUInt32 &&& Int32.toUInt32 31)).toInt32) &&& 858993459)) : Int32).toUInt32 >>> (((4) : Int32).toUInt32 &&& Int32.toUInt32 31)).toInt32)) &&& 252645135) : Int32).toUInt32 >>> (((8) : Int32).toUInt32 &&& Int32.toUInt32 31)).toInt32)) + (((((((((v - (((((v) : Int32).toUInt32 >>> (((1) : Int32).toUInt32 &&& Int32.toUInt32 31)).toInt32) &&& 1431655765)) &&& 858993459) + (((((v - (((((v) : Int32).toUInt32 >>> (((1) : Int32).toUInt32 &&& Int32.toUInt32 31)).toInt32) &&& 1431655765)) : Int32).toUInt32 >>> (((2) : Int32).toUInt32 &&& Int32.toUInt32 31)).toInt32) &&& 858993459)) + ((((((v - (((((v) : Int32).toUInt32 >>> (((1) : Int32).toUInt32 &&& Int32.toUInt32 31)).toInt32) &&& 1431655765)) &&& 858993459) + (((((v - (((((v) : Int32).toUInt32 >>> (((1) : Int32).toUInt32 &&& Int32.toUInt32 31)).toInt32) &&& 1431655765)) : Int32).toUInt32 >>> (((2) : Int32).toUInt32 &&& Int32.toUInt32 31)).toInt32) &&& 858993459)) : Int32).toUInt32 >>> (((4) : Int32).toUInt32 &&& Int32.toUInt32 31)).toInt32)) &&& 252645135) + ((((((((v - (((((v) : Int32).toUInt32 >>> (((1) : Int32).toUInt32 &&& Int32.toUInt32 31)).toInt32) &&& 1431655765)) &&& 858993459) + (((((v - (((((v) : Int32).toUInt32 >>> (((1) : Int32).toUInt32 &&& Int32.toUInt32 31)).toInt32) &&& 1431655765)) : Int32).toUInt32 >>> (((2) : Int32).toUInt32 &&& Int32.toUInt32 31)).toInt32) &&& 858993459)) + ((((((v - (((((v) : Int32).toUInt32 >>> (((1) : Int32).toUInt32 &&& Int32.toUInt32 31)).toInt32) &&& 1431655765)) &&& 858993459) + (((((v - (((((v) : Int32).toUInt32 >>> (((1) : Int32).toUInt32 &&& Int32.toUInt32 31)).toInt32) &&& 1431655765)) : Int32).toUInt32 >>> (((2) : Int32).toUInt32 &&& Int32.toUInt32 31)).toInt32) &&& 858993459)) : Int32).toUInt32 >>> (((4) : Int32).toUInt32 &&& Int32.toUInt32 31)).toInt32)) &&& 252645135) : Int32).toUInt32 >>> (((8) : Int32).toUInt32 &&& Int32.toUInt32 31)).toInt32)) : Int32).toUInt32 >>> (((16) : Int32).toUInt32 &&& Int32.toUInt32 31)).toInt32)))]) hx hb dJ6_bitCount_0f7a4_47 rfl hl (by decide) rfl (fun ls hl => ?_)
  refine lv_iload_n hx hb dJ6_bitCount_0f7a4_48 rfl (lv_at hl 0 rfl) ?_
  refine lv_bipush (v := 63) hx hb dJ6_bitCount_0f7a4_49 (by decide) ?_
  refine lv_iand hx hb dJ6_bitCount_0f7a4_51 ?_
  exact hs_iret hx hb hr hlocks hK hP hD hS () [] rfl (by decide) dJ6_bitCount_0f7a4_52 (rfl)

set_option maxHeartbeats 4000000 in
set_option maxRecDepth 100000 in
theorem c_cutsOf_0 (l : Launch) (D : va_G) (k : Nat → ClassId) (sz : Nat) (t : Nat) (t_weights : Nat) (t_kindOf : Nat) (t_light : Nat) (t_heavy : Nat) (t_seenBy : Nat) (t_seenCut : Nat) (t_seenFound : Nat)  : MI l yX1_cutsOf wsX1_cutsOf ({ frames := 1, cells := 0, slots := 0, locals := 20 }) D k [.ref t, .int 0] [(t, .inr (5, [.ref t_weights, .ref t_kindOf, .ref t_light, .ref t_heavy, .ref t_seenBy, .ref t_seenCut, .ref t_seenFound, .int 2, .int 0, .int 0, .int 0, .int 0, .int 2, .int 0, .int 0]))] sz (fun (r : Int32) (u : Unit) => r = 0) (fun (u : Unit) => [(t, .inr (5, [.ref t_weights, .ref t_kindOf, .ref t_light, .ref t_heavy, .ref t_seenBy, .ref t_seenCut, .ref t_seenFound, .int 2, .int 0, .int 0, .int 0, .int 0, .int 2, .int 0, .int 0]))]) := by
  refine Met.ofW (cc := cX1_cutsOf) (maxL := 3) (ret := (some .int)) (by decide) rfl ?_
  intro p e s m args below meth c s₁ B hml hv
  obtain ⟨rfl, hsz, hP, hK, hD0, hN⟩ := hv
  have hx := B.exec
  have hb := B.bytes
  have hr := B.returns
  have hlocks := B.notSynchronized
  have hts := atoms_spec (ws := wsX1_cutsOf) B.pre
  have hown : s.vm.findClass RX1 = some m.cls := findClass_of_methodNamed B.named
  have hiX6 : ∀ w ∈ u_ws RX6 TX6 15, w ∈ wsX1_cutsOf := by decide +kernel
  have fl24 := hts (.fieldLink RX1 24 "HalfScales$Thing" "cellCount" "I") (by decide +kernel)
  subst hsz
  have hD := hD0.self (sz := s.heap.size)
  generalize hAe : va_A [(t, .inr (5, [.ref t_weights, .ref t_kindOf, .ref t_light, .ref t_heavy, .ref t_seenBy, .ref t_seenCut, .ref t_seenFound, .int 2, .int 0, .int 0, .int 0, .int 0, .int 2, .int 0, .int 0]))] s.heap.size = A at hD ⊢
  have hA : ∀ q : Nat, s.heap.size ≤ q → A q := fun q h => by rw [← hAe]; exact Or.inr h
  have hS : va_S A s.heap s.heap [] := va_S.rf
  have hl := lv_entry ([.ref t, .int 0]) (n := 3) (Nat.le_of_ble_eq_true rfl)
  rw [lg_entry_eq]
  generalize (lg_sl ([.ref t, .int 0]) ++ List.replicate (3 - (lg_sl ([.ref t, .int 0])).length) Slot.unset).toArray = ls at hl ⊢
  have hl : lv_has ls 3 [(0, .ref t), (1, .int 0)] := hl
  have hP : va_P D vwCl [(t, .inr (5, [.ref t_weights, .ref t_kindOf, .ref t_light, .ref t_heavy, .ref t_seenBy, .ref t_seenCut, .ref t_seenFound, .int 2, .int 0, .int 0, .int 0, .int 0, .int 2, .int 0, .int 0]))] s.heap := hP
  refine lv_iconst (v := 1) hx hb dX1_cutsOf_0 (by decide) ?_
  refine lv_aload_n hx hb dX1_cutsOf_1 rfl (lv_at hl 0 rfl) ?_
  refine va_get (D := D) (ci := 5) (v := .int 2) (C := RX6) (T := TX6) (N := 15) hx hb hts hiX6 hown hK hP 0 rfl rfl 7 (by decide) fl24 (fun _ h9 => h9) rfl dX1_cutsOf_2 ?_
  refine lv_iconst (v := 1) hx hb dX1_cutsOf_5 (by decide) ?_
  refine lv_isub hx hb dX1_cutsOf_6 ?_
  refine hs_topi 1 (by first | rfl | decide +kernel) ?_
  refine lv_ishl hx hb dX1_cutsOf_7 ?_
  refine hs_topi 2 (by first | rfl | decide +kernel) ?_
  refine lv_iconst (v := 1) hx hb dX1_cutsOf_8 (by decide) ?_
  refine lv_isub hx hb dX1_cutsOf_9 ?_
  refine hs_topi 1 (by first | rfl | decide +kernel) ?_
  refine lv_istore_n (lv' := [(2, .int 1), (0, .ref t), (1, .int 0)]) hx hb dX1_cutsOf_10 rfl hl (by decide) rfl (fun ls hl => ?_)
  refine lv_iload_n hx hb dX1_cutsOf_11 rfl (lv_at hl 2 rfl) ?_
  refine lv_iload_n hx hb dX1_cutsOf_12 rfl (lv_at hl 2 rfl) ?_
  refine lv_iconst (v := 1) hx hb dX1_cutsOf_13 (by decide) ?_
  refine lv_ishr hx hb dX1_cutsOf_14 ?_
  refine hs_topi 0 (by first | rfl | decide +kernel) ?_
  refine lv_ixor hx hb dX1_cutsOf_15 ?_
  refine hs_topi 0 (by first | rfl | decide +kernel) ?_
  refine lv_iload_n hx hb dX1_cutsOf_16 rfl (lv_at hl 0 rfl) ?_
  refine lv_iand hx hb dX1_cutsOf_17 ?_
  refine hs_topi 0 (by first | rfl | decide +kernel) ?_
  refine hs_pi (va_runS (As := [.int 0]) (rest := []) ⟨hx, hb, hml, hown, hts⟩ (c_bitCount l D k _ 0) (va_cwS 1 hts gX1_cutsOf_J6_bitCount_0f7a4 rfl rfl rfl (by decide +kernel) ⟨Nat.le_of_ble_eq_true rfl, Nat.le_of_ble_eq_true rfl⟩) (hs_preS hK hN (hs_subP (w := []) hP [] rfl) (hD.sub (ws' := []) [] (by decide) rfl)) rfl rfl hl.1 rfl (lv_room (Nat.le_of_ble_eq_true rfl)) dX1_cutsOf_18 ⟨Nat.le_of_ble_eq_true rfl, Nat.le_of_ble_eq_true rfl⟩) hP hD hS hA (fun r_1 u_3 H locs hw_2 hP hS => ?_)
  refine hs_topi 0 (hw_2.trans (by first | rfl | decide +kernel | rfl)) ?_
  exact hs_iret hx hb hr hlocks hK hP hD hS () [0] rfl (by decide) dX1_cutsOf_21 (rfl)

set_option maxHeartbeats 4000000 in
set_option maxRecDepth 100000 in
theorem c_cutsOf_1 (l : Launch) (D : va_G) (k : Nat → ClassId) (sz : Nat) (t : Nat) (t_weights : Nat) (t_kindOf : Nat) (t_light : Nat) (t_heavy : Nat) (t_seenBy : Nat) (t_seenCut : Nat) (t_seenFound : Nat)  : MI l yX1_cutsOf wsX1_cutsOf ({ frames := 1, cells := 0, slots := 0, locals := 20 }) D k [.ref t, .int 1] [(t, .inr (5, [.ref t_weights, .ref t_kindOf, .ref t_light, .ref t_heavy, .ref t_seenBy, .ref t_seenCut, .ref t_seenFound, .int 2, .int 0, .int 0, .int 0, .int 0, .int 2, .int 0, .int 0]))] sz (fun (r : Int32) (u : Unit) => r = 1) (fun (u : Unit) => [(t, .inr (5, [.ref t_weights, .ref t_kindOf, .ref t_light, .ref t_heavy, .ref t_seenBy, .ref t_seenCut, .ref t_seenFound, .int 2, .int 0, .int 0, .int 0, .int 0, .int 2, .int 0, .int 0]))]) := by
  refine Met.ofW (cc := cX1_cutsOf) (maxL := 3) (ret := (some .int)) (by decide) rfl ?_
  intro p e s m args below meth c s₁ B hml hv
  obtain ⟨rfl, hsz, hP, hK, hD0, hN⟩ := hv
  have hx := B.exec
  have hb := B.bytes
  have hr := B.returns
  have hlocks := B.notSynchronized
  have hts := atoms_spec (ws := wsX1_cutsOf) B.pre
  have hown : s.vm.findClass RX1 = some m.cls := findClass_of_methodNamed B.named
  have hiX6 : ∀ w ∈ u_ws RX6 TX6 15, w ∈ wsX1_cutsOf := by decide +kernel
  have fl24 := hts (.fieldLink RX1 24 "HalfScales$Thing" "cellCount" "I") (by decide +kernel)
  subst hsz
  have hD := hD0.self (sz := s.heap.size)
  generalize hAe : va_A [(t, .inr (5, [.ref t_weights, .ref t_kindOf, .ref t_light, .ref t_heavy, .ref t_seenBy, .ref t_seenCut, .ref t_seenFound, .int 2, .int 0, .int 0, .int 0, .int 0, .int 2, .int 0, .int 0]))] s.heap.size = A at hD ⊢
  have hA : ∀ q : Nat, s.heap.size ≤ q → A q := fun q h => by rw [← hAe]; exact Or.inr h
  have hS : va_S A s.heap s.heap [] := va_S.rf
  have hl := lv_entry ([.ref t, .int 1]) (n := 3) (Nat.le_of_ble_eq_true rfl)
  rw [lg_entry_eq]
  generalize (lg_sl ([.ref t, .int 1]) ++ List.replicate (3 - (lg_sl ([.ref t, .int 1])).length) Slot.unset).toArray = ls at hl ⊢
  have hl : lv_has ls 3 [(0, .ref t), (1, .int 1)] := hl
  have hP : va_P D vwCl [(t, .inr (5, [.ref t_weights, .ref t_kindOf, .ref t_light, .ref t_heavy, .ref t_seenBy, .ref t_seenCut, .ref t_seenFound, .int 2, .int 0, .int 0, .int 0, .int 0, .int 2, .int 0, .int 0]))] s.heap := hP
  refine lv_iconst (v := 1) hx hb dX1_cutsOf_0 (by decide) ?_
  refine lv_aload_n hx hb dX1_cutsOf_1 rfl (lv_at hl 0 rfl) ?_
  refine va_get (D := D) (ci := 5) (v := .int 2) (C := RX6) (T := TX6) (N := 15) hx hb hts hiX6 hown hK hP 0 rfl rfl 7 (by decide) fl24 (fun _ h9 => h9) rfl dX1_cutsOf_2 ?_
  refine lv_iconst (v := 1) hx hb dX1_cutsOf_5 (by decide) ?_
  refine lv_isub hx hb dX1_cutsOf_6 ?_
  refine hs_topi 1 (by first | rfl | decide +kernel) ?_
  refine lv_ishl hx hb dX1_cutsOf_7 ?_
  refine hs_topi 2 (by first | rfl | decide +kernel) ?_
  refine lv_iconst (v := 1) hx hb dX1_cutsOf_8 (by decide) ?_
  refine lv_isub hx hb dX1_cutsOf_9 ?_
  refine hs_topi 1 (by first | rfl | decide +kernel) ?_
  refine lv_istore_n (lv' := [(2, .int 1), (0, .ref t), (1, .int 1)]) hx hb dX1_cutsOf_10 rfl hl (by decide) rfl (fun ls hl => ?_)
  refine lv_iload_n hx hb dX1_cutsOf_11 rfl (lv_at hl 2 rfl) ?_
  refine lv_iload_n hx hb dX1_cutsOf_12 rfl (lv_at hl 2 rfl) ?_
  refine lv_iconst (v := 1) hx hb dX1_cutsOf_13 (by decide) ?_
  refine lv_ishr hx hb dX1_cutsOf_14 ?_
  refine hs_topi 0 (by first | rfl | decide +kernel) ?_
  refine lv_ixor hx hb dX1_cutsOf_15 ?_
  refine hs_topi 1 (by first | rfl | decide +kernel) ?_
  refine lv_iload_n hx hb dX1_cutsOf_16 rfl (lv_at hl 0 rfl) ?_
  refine lv_iand hx hb dX1_cutsOf_17 ?_
  refine hs_topi 1 (by first | rfl | decide +kernel) ?_
  refine hs_pi (va_runS (As := [.int 1]) (rest := []) ⟨hx, hb, hml, hown, hts⟩ (c_bitCount l D k _ 1) (va_cwS 1 hts gX1_cutsOf_J6_bitCount_0f7a4 rfl rfl rfl (by decide +kernel) ⟨Nat.le_of_ble_eq_true rfl, Nat.le_of_ble_eq_true rfl⟩) (hs_preS hK hN (hs_subP (w := []) hP [] rfl) (hD.sub (ws' := []) [] (by decide) rfl)) rfl rfl hl.1 rfl (lv_room (Nat.le_of_ble_eq_true rfl)) dX1_cutsOf_18 ⟨Nat.le_of_ble_eq_true rfl, Nat.le_of_ble_eq_true rfl⟩) hP hD hS hA (fun r_1 u_3 H locs hw_2 hP hS => ?_)
  refine hs_topi 1 (hw_2.trans (by first | rfl | decide +kernel | rfl)) ?_
  exact hs_iret hx hb hr hlocks hK hP hD hS () [0] rfl (by decide) dX1_cutsOf_21 (rfl)

set_option maxHeartbeats 4000000 in
set_option maxRecDepth 100000 in
theorem c_cutsOf_2 (l : Launch) (D : va_G) (k : Nat → ClassId) (sz : Nat) (t : Nat) (t_weights : Nat) (t_kindOf : Nat) (t_light : Nat) (t_heavy : Nat) (t_seenBy : Nat) (t_seenCut : Nat) (t_seenFound : Nat)  : MI l yX1_cutsOf wsX1_cutsOf ({ frames := 1, cells := 0, slots := 0, locals := 20 }) D k [.ref t, .int 2] [(t, .inr (5, [.ref t_weights, .ref t_kindOf, .ref t_light, .ref t_heavy, .ref t_seenBy, .ref t_seenCut, .ref t_seenFound, .int 2, .int 0, .int 0, .int 0, .int 0, .int 2, .int 0, .int 0]))] sz (fun (r : Int32) (u : Unit) => r = 1) (fun (u : Unit) => [(t, .inr (5, [.ref t_weights, .ref t_kindOf, .ref t_light, .ref t_heavy, .ref t_seenBy, .ref t_seenCut, .ref t_seenFound, .int 2, .int 0, .int 0, .int 0, .int 0, .int 2, .int 0, .int 0]))]) := by
  refine Met.ofW (cc := cX1_cutsOf) (maxL := 3) (ret := (some .int)) (by decide) rfl ?_
  intro p e s m args below meth c s₁ B hml hv
  obtain ⟨rfl, hsz, hP, hK, hD0, hN⟩ := hv
  have hx := B.exec
  have hb := B.bytes
  have hr := B.returns
  have hlocks := B.notSynchronized
  have hts := atoms_spec (ws := wsX1_cutsOf) B.pre
  have hown : s.vm.findClass RX1 = some m.cls := findClass_of_methodNamed B.named
  have hiX6 : ∀ w ∈ u_ws RX6 TX6 15, w ∈ wsX1_cutsOf := by decide +kernel
  have fl24 := hts (.fieldLink RX1 24 "HalfScales$Thing" "cellCount" "I") (by decide +kernel)
  subst hsz
  have hD := hD0.self (sz := s.heap.size)
  generalize hAe : va_A [(t, .inr (5, [.ref t_weights, .ref t_kindOf, .ref t_light, .ref t_heavy, .ref t_seenBy, .ref t_seenCut, .ref t_seenFound, .int 2, .int 0, .int 0, .int 0, .int 0, .int 2, .int 0, .int 0]))] s.heap.size = A at hD ⊢
  have hA : ∀ q : Nat, s.heap.size ≤ q → A q := fun q h => by rw [← hAe]; exact Or.inr h
  have hS : va_S A s.heap s.heap [] := va_S.rf
  have hl := lv_entry ([.ref t, .int 2]) (n := 3) (Nat.le_of_ble_eq_true rfl)
  rw [lg_entry_eq]
  generalize (lg_sl ([.ref t, .int 2]) ++ List.replicate (3 - (lg_sl ([.ref t, .int 2])).length) Slot.unset).toArray = ls at hl ⊢
  have hl : lv_has ls 3 [(0, .ref t), (1, .int 2)] := hl
  have hP : va_P D vwCl [(t, .inr (5, [.ref t_weights, .ref t_kindOf, .ref t_light, .ref t_heavy, .ref t_seenBy, .ref t_seenCut, .ref t_seenFound, .int 2, .int 0, .int 0, .int 0, .int 0, .int 2, .int 0, .int 0]))] s.heap := hP
  refine lv_iconst (v := 1) hx hb dX1_cutsOf_0 (by decide) ?_
  refine lv_aload_n hx hb dX1_cutsOf_1 rfl (lv_at hl 0 rfl) ?_
  refine va_get (D := D) (ci := 5) (v := .int 2) (C := RX6) (T := TX6) (N := 15) hx hb hts hiX6 hown hK hP 0 rfl rfl 7 (by decide) fl24 (fun _ h9 => h9) rfl dX1_cutsOf_2 ?_
  refine lv_iconst (v := 1) hx hb dX1_cutsOf_5 (by decide) ?_
  refine lv_isub hx hb dX1_cutsOf_6 ?_
  refine hs_topi 1 (by first | rfl | decide +kernel) ?_
  refine lv_ishl hx hb dX1_cutsOf_7 ?_
  refine hs_topi 2 (by first | rfl | decide +kernel) ?_
  refine lv_iconst (v := 1) hx hb dX1_cutsOf_8 (by decide) ?_
  refine lv_isub hx hb dX1_cutsOf_9 ?_
  refine hs_topi 1 (by first | rfl | decide +kernel) ?_
  refine lv_istore_n (lv' := [(2, .int 1), (0, .ref t), (1, .int 2)]) hx hb dX1_cutsOf_10 rfl hl (by decide) rfl (fun ls hl => ?_)
  refine lv_iload_n hx hb dX1_cutsOf_11 rfl (lv_at hl 2 rfl) ?_
  refine lv_iload_n hx hb dX1_cutsOf_12 rfl (lv_at hl 2 rfl) ?_
  refine lv_iconst (v := 1) hx hb dX1_cutsOf_13 (by decide) ?_
  refine lv_ishr hx hb dX1_cutsOf_14 ?_
  refine hs_topi 1 (by first | rfl | decide +kernel) ?_
  refine lv_ixor hx hb dX1_cutsOf_15 ?_
  refine hs_topi 3 (by first | rfl | decide +kernel) ?_
  refine lv_iload_n hx hb dX1_cutsOf_16 rfl (lv_at hl 0 rfl) ?_
  refine lv_iand hx hb dX1_cutsOf_17 ?_
  refine hs_topi 1 (by first | rfl | decide +kernel) ?_
  refine hs_pi (va_runS (As := [.int 1]) (rest := []) ⟨hx, hb, hml, hown, hts⟩ (c_bitCount l D k _ 1) (va_cwS 1 hts gX1_cutsOf_J6_bitCount_0f7a4 rfl rfl rfl (by decide +kernel) ⟨Nat.le_of_ble_eq_true rfl, Nat.le_of_ble_eq_true rfl⟩) (hs_preS hK hN (hs_subP (w := []) hP [] rfl) (hD.sub (ws' := []) [] (by decide) rfl)) rfl rfl hl.1 rfl (lv_room (Nat.le_of_ble_eq_true rfl)) dX1_cutsOf_18 ⟨Nat.le_of_ble_eq_true rfl, Nat.le_of_ble_eq_true rfl⟩) hP hD hS hA (fun r_1 u_3 H locs hw_2 hP hS => ?_)
  refine hs_topi 1 (hw_2.trans (by first | rfl | decide +kernel | rfl)) ?_
  exact hs_iret hx hb hr hlocks hK hP hD hS () [0] rfl (by decide) dX1_cutsOf_21 (rfl)

set_option maxHeartbeats 4000000 in
set_option maxRecDepth 100000 in
theorem c_cutsOf_3 (l : Launch) (D : va_G) (k : Nat → ClassId) (sz : Nat) (t : Nat) (t_weights : Nat) (t_kindOf : Nat) (t_light : Nat) (t_heavy : Nat) (t_seenBy : Nat) (t_seenCut : Nat) (t_seenFound : Nat)  : MI l yX1_cutsOf wsX1_cutsOf ({ frames := 1, cells := 0, slots := 0, locals := 20 }) D k [.ref t, .int 3] [(t, .inr (5, [.ref t_weights, .ref t_kindOf, .ref t_light, .ref t_heavy, .ref t_seenBy, .ref t_seenCut, .ref t_seenFound, .int 2, .int 0, .int 0, .int 0, .int 0, .int 2, .int 0, .int 0]))] sz (fun (r : Int32) (u : Unit) => r = 0) (fun (u : Unit) => [(t, .inr (5, [.ref t_weights, .ref t_kindOf, .ref t_light, .ref t_heavy, .ref t_seenBy, .ref t_seenCut, .ref t_seenFound, .int 2, .int 0, .int 0, .int 0, .int 0, .int 2, .int 0, .int 0]))]) := by
  refine Met.ofW (cc := cX1_cutsOf) (maxL := 3) (ret := (some .int)) (by decide) rfl ?_
  intro p e s m args below meth c s₁ B hml hv
  obtain ⟨rfl, hsz, hP, hK, hD0, hN⟩ := hv
  have hx := B.exec
  have hb := B.bytes
  have hr := B.returns
  have hlocks := B.notSynchronized
  have hts := atoms_spec (ws := wsX1_cutsOf) B.pre
  have hown : s.vm.findClass RX1 = some m.cls := findClass_of_methodNamed B.named
  have hiX6 : ∀ w ∈ u_ws RX6 TX6 15, w ∈ wsX1_cutsOf := by decide +kernel
  have fl24 := hts (.fieldLink RX1 24 "HalfScales$Thing" "cellCount" "I") (by decide +kernel)
  subst hsz
  have hD := hD0.self (sz := s.heap.size)
  generalize hAe : va_A [(t, .inr (5, [.ref t_weights, .ref t_kindOf, .ref t_light, .ref t_heavy, .ref t_seenBy, .ref t_seenCut, .ref t_seenFound, .int 2, .int 0, .int 0, .int 0, .int 0, .int 2, .int 0, .int 0]))] s.heap.size = A at hD ⊢
  have hA : ∀ q : Nat, s.heap.size ≤ q → A q := fun q h => by rw [← hAe]; exact Or.inr h
  have hS : va_S A s.heap s.heap [] := va_S.rf
  have hl := lv_entry ([.ref t, .int 3]) (n := 3) (Nat.le_of_ble_eq_true rfl)
  rw [lg_entry_eq]
  generalize (lg_sl ([.ref t, .int 3]) ++ List.replicate (3 - (lg_sl ([.ref t, .int 3])).length) Slot.unset).toArray = ls at hl ⊢
  have hl : lv_has ls 3 [(0, .ref t), (1, .int 3)] := hl
  have hP : va_P D vwCl [(t, .inr (5, [.ref t_weights, .ref t_kindOf, .ref t_light, .ref t_heavy, .ref t_seenBy, .ref t_seenCut, .ref t_seenFound, .int 2, .int 0, .int 0, .int 0, .int 0, .int 2, .int 0, .int 0]))] s.heap := hP
  refine lv_iconst (v := 1) hx hb dX1_cutsOf_0 (by decide) ?_
  refine lv_aload_n hx hb dX1_cutsOf_1 rfl (lv_at hl 0 rfl) ?_
  refine va_get (D := D) (ci := 5) (v := .int 2) (C := RX6) (T := TX6) (N := 15) hx hb hts hiX6 hown hK hP 0 rfl rfl 7 (by decide) fl24 (fun _ h9 => h9) rfl dX1_cutsOf_2 ?_
  refine lv_iconst (v := 1) hx hb dX1_cutsOf_5 (by decide) ?_
  refine lv_isub hx hb dX1_cutsOf_6 ?_
  refine hs_topi 1 (by first | rfl | decide +kernel) ?_
  refine lv_ishl hx hb dX1_cutsOf_7 ?_
  refine hs_topi 2 (by first | rfl | decide +kernel) ?_
  refine lv_iconst (v := 1) hx hb dX1_cutsOf_8 (by decide) ?_
  refine lv_isub hx hb dX1_cutsOf_9 ?_
  refine hs_topi 1 (by first | rfl | decide +kernel) ?_
  refine lv_istore_n (lv' := [(2, .int 1), (0, .ref t), (1, .int 3)]) hx hb dX1_cutsOf_10 rfl hl (by decide) rfl (fun ls hl => ?_)
  refine lv_iload_n hx hb dX1_cutsOf_11 rfl (lv_at hl 2 rfl) ?_
  refine lv_iload_n hx hb dX1_cutsOf_12 rfl (lv_at hl 2 rfl) ?_
  refine lv_iconst (v := 1) hx hb dX1_cutsOf_13 (by decide) ?_
  refine lv_ishr hx hb dX1_cutsOf_14 ?_
  refine hs_topi 1 (by first | rfl | decide +kernel) ?_
  refine lv_ixor hx hb dX1_cutsOf_15 ?_
  refine hs_topi 2 (by first | rfl | decide +kernel) ?_
  refine lv_iload_n hx hb dX1_cutsOf_16 rfl (lv_at hl 0 rfl) ?_
  refine lv_iand hx hb dX1_cutsOf_17 ?_
  refine hs_topi 0 (by first | rfl | decide +kernel) ?_
  refine hs_pi (va_runS (As := [.int 0]) (rest := []) ⟨hx, hb, hml, hown, hts⟩ (c_bitCount l D k _ 0) (va_cwS 1 hts gX1_cutsOf_J6_bitCount_0f7a4 rfl rfl rfl (by decide +kernel) ⟨Nat.le_of_ble_eq_true rfl, Nat.le_of_ble_eq_true rfl⟩) (hs_preS hK hN (hs_subP (w := []) hP [] rfl) (hD.sub (ws' := []) [] (by decide) rfl)) rfl rfl hl.1 rfl (lv_room (Nat.le_of_ble_eq_true rfl)) dX1_cutsOf_18 ⟨Nat.le_of_ble_eq_true rfl, Nat.le_of_ble_eq_true rfl⟩) hP hD hS hA (fun r_1 u_3 H locs hw_2 hP hS => ?_)
  refine hs_topi 0 (hw_2.trans (by first | rfl | decide +kernel | rfl)) ?_
  exact hs_iret hx hb hr hlocks hK hP hD hS () [0] rfl (by decide) dX1_cutsOf_21 (rfl)

set_option maxHeartbeats 4000000 in
set_option maxRecDepth 100000 in
theorem c_isJustToAll0 (l : Launch) (D : va_G) (k : Nat → ClassId) (sz : Nat) (t : Nat) (t_weights : Nat) (t_kindOf : Nat) (t_light : Nat) (t_heavy : Nat) (t_seenBy : Nat) (t_seenCut : Nat) (t_seenFound : Nat) (a : Int32) (b : Int32)  : MI l yX1_isJustToAll wsX1_isJustToAll ({ frames := 0, cells := 0, slots := 0, locals := 0 }) D k [.ref t, .int a, .int b] [(t, .inr (5, [.ref t_weights, .ref t_kindOf, .ref t_light, .ref t_heavy, .ref t_seenBy, .ref t_seenCut, .ref t_seenFound, .int 2, .int 0, .int 0, .int 0, .int 0, .int 2, .int 0, .int 0]))] sz (fun (r : Int32) (u : Unit) => r = 1) (fun (u : Unit) => [(t, .inr (5, [.ref t_weights, .ref t_kindOf, .ref t_light, .ref t_heavy, .ref t_seenBy, .ref t_seenCut, .ref t_seenFound, .int 2, .int 0, .int 0, .int 0, .int 0, .int 2, .int 0, .int 0]))]) := by
  refine Met.ofW (cc := cX1_isJustToAll) (maxL := 4) (ret := (some .boolean)) (by decide) rfl ?_
  intro p e s m args below meth c s₁ B hml hv
  obtain ⟨rfl, hsz, hP, hK, hD0, hN⟩ := hv
  have hx := B.exec
  have hb := B.bytes
  have hr := B.returns
  have hlocks := B.notSynchronized
  have hts := atoms_spec (ws := wsX1_isJustToAll) B.pre
  have hown : s.vm.findClass RX1 = some m.cls := findClass_of_methodNamed B.named
  have hiX6 : ∀ w ∈ u_ws RX6 TX6 15, w ∈ wsX1_isJustToAll := by decide +kernel
  have fl58 := hts (.fieldLink RX1 58 "HalfScales$Thing" "peopleCount" "I") (by decide +kernel)
  subst hsz
  have hD := hD0.self (sz := s.heap.size)
  generalize hAe : va_A [(t, .inr (5, [.ref t_weights, .ref t_kindOf, .ref t_light, .ref t_heavy, .ref t_seenBy, .ref t_seenCut, .ref t_seenFound, .int 2, .int 0, .int 0, .int 0, .int 0, .int 2, .int 0, .int 0]))] s.heap.size = A at hD ⊢
  have hA : ∀ q : Nat, s.heap.size ≤ q → A q := fun q h => by rw [← hAe]; exact Or.inr h
  have hS : va_S A s.heap s.heap [] := va_S.rf
  have hl := lv_entry ([.ref t, .int a, .int b]) (n := 4) (Nat.le_of_ble_eq_true rfl)
  rw [lg_entry_eq]
  generalize (lg_sl ([.ref t, .int a, .int b]) ++ List.replicate (4 - (lg_sl ([.ref t, .int a, .int b])).length) Slot.unset).toArray = ls at hl ⊢
  have hl : lv_has ls 4 [(0, .ref t), (1, .int a), (2, .int b)] := hl
  have hP : va_P D vwCl [(t, .inr (5, [.ref t_weights, .ref t_kindOf, .ref t_light, .ref t_heavy, .ref t_seenBy, .ref t_seenCut, .ref t_seenFound, .int 2, .int 0, .int 0, .int 0, .int 0, .int 2, .int 0, .int 0]))] s.heap := hP
  refine lv_iconst (v := 0) hx hb dX1_isJustToAll_0 (by decide) ?_
  refine lv_istore_n (lv' := [(3, .int 0), (0, .ref t), (1, .int a), (2, .int b)]) hx hb dX1_isJustToAll_1 rfl hl (by decide) rfl (fun ls hl => ?_)
  refine lv_iload_n hx hb dX1_isJustToAll_2 rfl (lv_at hl 0 rfl) ?_
  refine lv_aload_n hx hb dX1_isJustToAll_3 rfl (lv_at hl 1 rfl) ?_
  refine va_get (D := D) (ci := 5) (v := .int 0) (C := RX6) (T := TX6) (N := 15) hx hb hts hiX6 hown hK hP 0 rfl rfl 8 (by decide) fl58 (fun _ h9 => h9) rfl dX1_isJustToAll_4 ?_
  refine lv_icmp_ge (tgt := 43) hx hb dX1_isJustToAll_7 (by decide) (fun c_1 => ?_) (fun c_1 => absurd c_1 (by decide))
  refine lv_iconst (v := 1) hx hb dX1_isJustToAll_43 (by decide) ?_
  exact hs_zret hx hb hr hlocks hK hP hD hS () [0] rfl (by decide) dX1_isJustToAll_44 rfl (rfl)

set_option maxHeartbeats 4000000 in
set_option maxRecDepth 100000 in
theorem c_fewestCuts0 (l : Launch) (D : va_G) (k : Nat → ClassId) (sz : Nat) (t : Nat) (t_weights : Nat) (t_kindOf : Nat) (t_light : Nat) (t_heavy : Nat) (t_seenBy : Nat) (t_seenCut : Nat) (t_seenFound : Nat)  : MI l yX1_fewestCuts wsX1_fewestCuts ({ frames := 2, cells := 0, slots := 0, locals := 42 }) D k [.ref t, .int 0] [(t, .inr (5, [.ref t_weights, .ref t_kindOf, .ref t_light, .ref t_heavy, .ref t_seenBy, .ref t_seenCut, .ref t_seenFound, .int 2, .int 0, .int 0, .int 0, .int 0, .int 2, .int 0, .int 0]))] sz (fun (r : Int32) (u : Unit) => r = 0) (fun (u : Unit) => [(t, .inr (5, [.ref t_weights, .ref t_kindOf, .ref t_light, .ref t_heavy, .ref t_seenBy, .ref t_seenCut, .ref t_seenFound, .int 2, .int 0, .int 0, .int 0, .int 0, .int 2, .int 0, .int 0]))]) := by
  refine Met.ofW (cc := cX1_fewestCuts) (maxL := 6) (ret := (some .int)) (by decide) rfl ?_
  intro p e s m args below meth c s₁ B hml hv
  obtain ⟨rfl, hsz, hP, hK, hD0, hN⟩ := hv
  have hx := B.exec
  have hb := B.bytes
  have hr := B.returns
  have hlocks := B.notSynchronized
  have hts := atoms_spec (ws := wsX1_fewestCuts) B.pre
  have hown : s.vm.findClass RX1 = some m.cls := findClass_of_methodNamed B.named
  subst hsz
  have hD := hD0.self (sz := s.heap.size)
  generalize hAe : va_A [(t, .inr (5, [.ref t_weights, .ref t_kindOf, .ref t_light, .ref t_heavy, .ref t_seenBy, .ref t_seenCut, .ref t_seenFound, .int 2, .int 0, .int 0, .int 0, .int 0, .int 2, .int 0, .int 0]))] s.heap.size = A at hD ⊢
  have hA : ∀ q : Nat, s.heap.size ≤ q → A q := fun q h => by rw [← hAe]; exact Or.inr h
  have hS : va_S A s.heap s.heap [] := va_S.rf
  have hl := lv_entry ([.ref t, .int 0]) (n := 6) (Nat.le_of_ble_eq_true rfl)
  rw [lg_entry_eq]
  generalize (lg_sl ([.ref t, .int 0]) ++ List.replicate (6 - (lg_sl ([.ref t, .int 0])).length) Slot.unset).toArray = ls at hl ⊢
  have hl : lv_has ls 6 [(0, .ref t), (1, .int 0)] := hl
  have hP : va_P D vwCl [(t, .inr (5, [.ref t_weights, .ref t_kindOf, .ref t_light, .ref t_heavy, .ref t_seenBy, .ref t_seenCut, .ref t_seenFound, .int 2, .int 0, .int 0, .int 0, .int 0, .int 2, .int 0, .int 0]))] s.heap := hP
  refine lv_bipush (v := (-4)) hx hb dX1_fewestCuts_0 (by decide) ?_
  refine lv_istore_n (lv' := [(2, .int (-4)), (0, .ref t), (1, .int 0)]) hx hb dX1_fewestCuts_2 rfl hl (by decide) rfl (fun ls hl => ?_)
  refine lv_bipush (v := 8) hx hb dX1_fewestCuts_3 (by decide) ?_
  refine lv_istore_n (lv' := [(3, .int 8), (2, .int (-4)), (0, .ref t), (1, .int 0)]) hx hb dX1_fewestCuts_5 rfl hl (by decide) rfl (fun ls hl => ?_)
  refine lv_iconst (v := 0) hx hb dX1_fewestCuts_6 (by decide) ?_
  refine lv_istore (lv' := [(4, .int 0), (3, .int 8), (2, .int (-4)), (0, .ref t), (1, .int 0)]) hx hb dX1_fewestCuts_7 hl (by decide) rfl (fun ls hl => ?_)
  refine lv_iload hx hb dX1_fewestCuts_9 (lv_at hl 0 rfl) ?_
  refine lv_aload_n hx hb dX1_fewestCuts_11 rfl (lv_at hl 3 rfl) ?_
  refine hs_ci (va_runV (As := []) (rest := [.int 0]) ⟨hx, hb, hml, hown, hts⟩ (c_allCells0 l D k _ t t_weights t_kindOf t_light t_heavy t_seenBy t_seenCut t_seenFound) (cwV 0 hts gX1_fewestCuts_X6_allCells rfl rfl rfl (by decide +kernel) ⟨Nat.le_of_ble_eq_true rfl, Nat.le_of_ble_eq_true rfl⟩) (hs_preV hK hN (hs_subP (w := [(t, .inr (5, [.ref t_weights, .ref t_kindOf, .ref t_light, .ref t_heavy, .ref t_seenBy, .ref t_seenCut, .ref t_seenFound, .int 2, .int 0, .int 0, .int 0, .int 0, .int 2, .int 0, .int 0]))]) hP [0] rfl) (hD.sub (ws' := [(t, .inr (5, [.ref t_weights, .ref t_kindOf, .ref t_light, .ref t_heavy, .ref t_seenBy, .ref t_seenCut, .ref t_seenFound, .int 2, .int 0, .int 0, .int 0, .int 0, .int 2, .int 0, .int 0]))]) [0] (by decide) rfl) (ci := 5) (q0 := 0) rfl rfl) rfl rfl hl.1 rfl (lv_room (Nat.le_of_ble_eq_true rfl)) dX1_fewestCuts_12 ⟨Nat.le_of_ble_eq_true rfl, Nat.le_of_ble_eq_true rfl⟩) hP hD hS hA [0] [] [] rfl rfl (by decide) (by decide) [0] (fun u_3 => [(t, .inr (5, [.ref t_weights, .ref t_kindOf, .ref t_light, .ref t_heavy, .ref t_seenBy, .ref t_seenCut, .ref t_seenFound, .int 2, .int 0, .int 0, .int 0, .int 0, .int 2, .int 0, .int 0]))]) (fun _ => rfl) (by decide) (fun r_1 u_3 H locs hw_2 hP hD hS => ?_)
  have hP : va_P D vwCl [(t, .inr (5, [.ref t_weights, .ref t_kindOf, .ref t_light, .ref t_heavy, .ref t_seenBy, .ref t_seenCut, .ref t_seenFound, .int 2, .int 0, .int 0, .int 0, .int 0, .int 2, .int 0, .int 0]))] H := hP
  have hD : va_D A [(t, .inr (5, [.ref t_weights, .ref t_kindOf, .ref t_light, .ref t_heavy, .ref t_seenBy, .ref t_seenCut, .ref t_seenFound, .int 2, .int 0, .int 0, .int 0, .int 0, .int 2, .int 0, .int 0]))] := hD
  refine hs_topi 3 (hw_2.trans (by first | rfl | decide +kernel | rfl)) ?_
  refine lv_icmp_gt (tgt := 54) hx hb dX1_fewestCuts_15 (by decide) (fun c_4 => absurd c_4 (by decide)) (fun c_4 => ?_)
  refine lv_aload_n hx hb dX1_fewestCuts_18 rfl (lv_at hl 3 rfl) ?_
  refine lv_iload hx hb dX1_fewestCuts_19 (lv_at hl 0 rfl) ?_
  refine hs_ci (va_runS (As := [.ref t, .int 0]) (rest := []) ⟨hx, hb, hml, hown, hts⟩ (c_cutsOf_0 l D k _ t t_weights t_kindOf t_light t_heavy t_seenBy t_seenCut t_seenFound) (va_cwS 2 hts gX1_fewestCuts_X1_cutsOf rfl rfl rfl (by decide +kernel) ⟨Nat.le_of_ble_eq_true rfl, Nat.le_of_ble_eq_true rfl⟩) (hs_preS hK hN (hs_subP (w := [(t, .inr (5, [.ref t_weights, .ref t_kindOf, .ref t_light, .ref t_heavy, .ref t_seenBy, .ref t_seenCut, .ref t_seenFound, .int 2, .int 0, .int 0, .int 0, .int 0, .int 2, .int 0, .int 0]))]) hP [0] rfl) (hD.sub (ws' := [(t, .inr (5, [.ref t_weights, .ref t_kindOf, .ref t_light, .ref t_heavy, .ref t_seenBy, .ref t_seenCut, .ref t_seenFound, .int 2, .int 0, .int 0, .int 0, .int 0, .int 2, .int 0, .int 0]))]) [0] (by decide) rfl)) rfl rfl hl.1 rfl (lv_room (Nat.le_of_ble_eq_true rfl)) dX1_fewestCuts_21 ⟨Nat.le_of_ble_eq_true rfl, Nat.le_of_ble_eq_true rfl⟩) hP hD hS hA [0] [] [] rfl rfl (by decide) (by decide) [0] (fun u_7 => [(t, .inr (5, [.ref t_weights, .ref t_kindOf, .ref t_light, .ref t_heavy, .ref t_seenBy, .ref t_seenCut, .ref t_seenFound, .int 2, .int 0, .int 0, .int 0, .int 0, .int 2, .int 0, .int 0]))]) (fun _ => rfl) (by decide) (fun r_5 u_7 H locs hw_6 hP hD hS => ?_)
  have hP : va_P D vwCl [(t, .inr (5, [.ref t_weights, .ref t_kindOf, .ref t_light, .ref t_heavy, .ref t_seenBy, .ref t_seenCut, .ref t_seenFound, .int 2, .int 0, .int 0, .int 0, .int 0, .int 2, .int 0, .int 0]))] H := hP
  have hD : va_D A [(t, .inr (5, [.ref t_weights, .ref t_kindOf, .ref t_light, .ref t_heavy, .ref t_seenBy, .ref t_seenCut, .ref t_seenFound, .int 2, .int 0, .int 0, .int 0, .int 0, .int 2, .int 0, .int 0]))] := hD
  refine hs_topi 0 (hw_6.trans (by first | rfl | decide +kernel | rfl)) ?_
  refine lv_istore (lv' := [(5, .int 0), (4, .int 0), (3, .int 8), (2, .int (-4)), (0, .ref t), (1, .int 0)]) hx hb dX1_fewestCuts_24 hl (by decide) rfl (fun ls hl => ?_)
  refine lv_iload hx hb dX1_fewestCuts_26 (lv_at hl 0 rfl) ?_
  refine lv_iload_n hx hb dX1_fewestCuts_28 rfl (lv_at hl 2 rfl) ?_
  refine lv_icmp_ge (tgt := 48) hx hb dX1_fewestCuts_29 (by decide) (fun c_8 => absurd c_8 (by decide)) (fun c_8 => ?_)
  refine lv_aload_n hx hb dX1_fewestCuts_32 rfl (lv_at hl 4 rfl) ?_
  refine lv_iload_n hx hb dX1_fewestCuts_33 rfl (lv_at hl 5 rfl) ?_
  refine lv_iload hx hb dX1_fewestCuts_34 (lv_at hl 1 rfl) ?_
  refine hs_ci (va_runS (As := [.ref t, .int 0, .int 0]) (rest := []) ⟨hx, hb, hml, hown, hts⟩ (c_isJustToAll0 l D k _ t t_weights t_kindOf t_light t_heavy t_seenBy t_seenCut t_seenFound 0 0) (va_cwS 3 hts gX1_fewestCuts_X1_isJustToAll rfl rfl rfl (by decide +kernel) ⟨Nat.le_of_ble_eq_true rfl, Nat.le_of_ble_eq_true rfl⟩) (hs_preS hK hN (hs_subP (w := [(t, .inr (5, [.ref t_weights, .ref t_kindOf, .ref t_light, .ref t_heavy, .ref t_seenBy, .ref t_seenCut, .ref t_seenFound, .int 2, .int 0, .int 0, .int 0, .int 0, .int 2, .int 0, .int 0]))]) hP [0] rfl) (hD.sub (ws' := [(t, .inr (5, [.ref t_weights, .ref t_kindOf, .ref t_light, .ref t_heavy, .ref t_seenBy, .ref t_seenCut, .ref t_seenFound, .int 2, .int 0, .int 0, .int 0, .int 0, .int 2, .int 0, .int 0]))]) [0] (by decide) rfl)) rfl rfl hl.1 rfl (lv_room (Nat.le_of_ble_eq_true rfl)) dX1_fewestCuts_36 ⟨Nat.le_of_ble_eq_true rfl, Nat.le_of_ble_eq_true rfl⟩) hP hD hS hA [0] [] [] rfl rfl (by decide) (by decide) [0] (fun u_11 => [(t, .inr (5, [.ref t_weights, .ref t_kindOf, .ref t_light, .ref t_heavy, .ref t_seenBy, .ref t_seenCut, .ref t_seenFound, .int 2, .int 0, .int 0, .int 0, .int 0, .int 2, .int 0, .int 0]))]) (fun _ => rfl) (by decide) (fun r_9 u_11 H locs hw_10 hP hD hS => ?_)
  have hP : va_P D vwCl [(t, .inr (5, [.ref t_weights, .ref t_kindOf, .ref t_light, .ref t_heavy, .ref t_seenBy, .ref t_seenCut, .ref t_seenFound, .int 2, .int 0, .int 0, .int 0, .int 0, .int 2, .int 0, .int 0]))] H := hP
  have hD : va_D A [(t, .inr (5, [.ref t_weights, .ref t_kindOf, .ref t_light, .ref t_heavy, .ref t_seenBy, .ref t_seenCut, .ref t_seenFound, .int 2, .int 0, .int 0, .int 0, .int 0, .int 2, .int 0, .int 0]))] := hD
  refine hs_topi 1 (hw_10.trans (by first | rfl | decide +kernel | rfl)) ?_
  refine lv_if_eq (tgt := 48) hx hb dX1_fewestCuts_39 (by decide) (fun c_12 => absurd c_12 (by decide)) (fun c_12 => ?_)
  refine lv_iload hx hb dX1_fewestCuts_42 (lv_at hl 1 rfl) ?_
  refine lv_istore_n (lv' := [(2, .int 0), (5, .int 0), (4, .int 0), (3, .int 8), (0, .ref t), (1, .int 0)]) hx hb dX1_fewestCuts_44 rfl hl (by decide) rfl (fun ls hl => ?_)
  refine lv_iload hx hb dX1_fewestCuts_45 (lv_at hl 1 rfl) ?_
  refine lv_istore_n (lv' := [(3, .int 0), (2, .int 0), (5, .int 0), (4, .int 0), (0, .ref t), (1, .int 0)]) hx hb dX1_fewestCuts_47 rfl hl (by decide) rfl (fun ls hl => ?_)
  refine lv_iinc (v := 1) (lv' := [(4, .int 1), (3, .int 0), (2, .int 0), (5, .int 0), (0, .ref t), (1, .int 0)]) hx hb dX1_fewestCuts_48 hl (k := 3) rfl (by decide) (by decide) rfl (fun ls hl => ?_)
  refine lv_goto (tgt := 9) hx hb dX1_fewestCuts_51 (by decide) ?_
  refine lv_iload hx hb dX1_fewestCuts_9 (lv_at hl 0 rfl) ?_
  refine lv_aload_n hx hb dX1_fewestCuts_11 rfl (lv_at hl 4 rfl) ?_
  refine hs_ci (va_runV (As := []) (rest := [.int 1]) ⟨hx, hb, hml, hown, hts⟩ (c_allCells0 l D k _ t t_weights t_kindOf t_light t_heavy t_seenBy t_seenCut t_seenFound) (cwV 0 hts gX1_fewestCuts_X6_allCells rfl rfl rfl (by decide +kernel) ⟨Nat.le_of_ble_eq_true rfl, Nat.le_of_ble_eq_true rfl⟩) (hs_preV hK hN (hs_subP (w := [(t, .inr (5, [.ref t_weights, .ref t_kindOf, .ref t_light, .ref t_heavy, .ref t_seenBy, .ref t_seenCut, .ref t_seenFound, .int 2, .int 0, .int 0, .int 0, .int 0, .int 2, .int 0, .int 0]))]) hP [0] rfl) (hD.sub (ws' := [(t, .inr (5, [.ref t_weights, .ref t_kindOf, .ref t_light, .ref t_heavy, .ref t_seenBy, .ref t_seenCut, .ref t_seenFound, .int 2, .int 0, .int 0, .int 0, .int 0, .int 2, .int 0, .int 0]))]) [0] (by decide) rfl) (ci := 5) (q0 := 0) rfl rfl) rfl rfl hl.1 rfl (lv_room (Nat.le_of_ble_eq_true rfl)) dX1_fewestCuts_12 ⟨Nat.le_of_ble_eq_true rfl, Nat.le_of_ble_eq_true rfl⟩) hP hD hS hA [0] [] [] rfl rfl (by decide) (by decide) [0] (fun u_15 => [(t, .inr (5, [.ref t_weights, .ref t_kindOf, .ref t_light, .ref t_heavy, .ref t_seenBy, .ref t_seenCut, .ref t_seenFound, .int 2, .int 0, .int 0, .int 0, .int 0, .int 2, .int 0, .int 0]))]) (fun _ => rfl) (by decide) (fun r_13 u_15 H locs hw_14 hP hD hS => ?_)
  have hP : va_P D vwCl [(t, .inr (5, [.ref t_weights, .ref t_kindOf, .ref t_light, .ref t_heavy, .ref t_seenBy, .ref t_seenCut, .ref t_seenFound, .int 2, .int 0, .int 0, .int 0, .int 0, .int 2, .int 0, .int 0]))] H := hP
  have hD : va_D A [(t, .inr (5, [.ref t_weights, .ref t_kindOf, .ref t_light, .ref t_heavy, .ref t_seenBy, .ref t_seenCut, .ref t_seenFound, .int 2, .int 0, .int 0, .int 0, .int 0, .int 2, .int 0, .int 0]))] := hD
  refine hs_topi 3 (hw_14.trans (by first | rfl | decide +kernel | rfl)) ?_
  refine lv_icmp_gt (tgt := 54) hx hb dX1_fewestCuts_15 (by decide) (fun c_16 => absurd c_16 (by decide)) (fun c_16 => ?_)
  refine lv_aload_n hx hb dX1_fewestCuts_18 rfl (lv_at hl 4 rfl) ?_
  refine lv_iload hx hb dX1_fewestCuts_19 (lv_at hl 0 rfl) ?_
  refine hs_ci (va_runS (As := [.ref t, .int 1]) (rest := []) ⟨hx, hb, hml, hown, hts⟩ (c_cutsOf_1 l D k _ t t_weights t_kindOf t_light t_heavy t_seenBy t_seenCut t_seenFound) (va_cwS 2 hts gX1_fewestCuts_X1_cutsOf rfl rfl rfl (by decide +kernel) ⟨Nat.le_of_ble_eq_true rfl, Nat.le_of_ble_eq_true rfl⟩) (hs_preS hK hN (hs_subP (w := [(t, .inr (5, [.ref t_weights, .ref t_kindOf, .ref t_light, .ref t_heavy, .ref t_seenBy, .ref t_seenCut, .ref t_seenFound, .int 2, .int 0, .int 0, .int 0, .int 0, .int 2, .int 0, .int 0]))]) hP [0] rfl) (hD.sub (ws' := [(t, .inr (5, [.ref t_weights, .ref t_kindOf, .ref t_light, .ref t_heavy, .ref t_seenBy, .ref t_seenCut, .ref t_seenFound, .int 2, .int 0, .int 0, .int 0, .int 0, .int 2, .int 0, .int 0]))]) [0] (by decide) rfl)) rfl rfl hl.1 rfl (lv_room (Nat.le_of_ble_eq_true rfl)) dX1_fewestCuts_21 ⟨Nat.le_of_ble_eq_true rfl, Nat.le_of_ble_eq_true rfl⟩) hP hD hS hA [0] [] [] rfl rfl (by decide) (by decide) [0] (fun u_19 => [(t, .inr (5, [.ref t_weights, .ref t_kindOf, .ref t_light, .ref t_heavy, .ref t_seenBy, .ref t_seenCut, .ref t_seenFound, .int 2, .int 0, .int 0, .int 0, .int 0, .int 2, .int 0, .int 0]))]) (fun _ => rfl) (by decide) (fun r_17 u_19 H locs hw_18 hP hD hS => ?_)
  have hP : va_P D vwCl [(t, .inr (5, [.ref t_weights, .ref t_kindOf, .ref t_light, .ref t_heavy, .ref t_seenBy, .ref t_seenCut, .ref t_seenFound, .int 2, .int 0, .int 0, .int 0, .int 0, .int 2, .int 0, .int 0]))] H := hP
  have hD : va_D A [(t, .inr (5, [.ref t_weights, .ref t_kindOf, .ref t_light, .ref t_heavy, .ref t_seenBy, .ref t_seenCut, .ref t_seenFound, .int 2, .int 0, .int 0, .int 0, .int 0, .int 2, .int 0, .int 0]))] := hD
  refine hs_topi 1 (hw_18.trans (by first | rfl | decide +kernel | rfl)) ?_
  refine lv_istore (lv' := [(5, .int 1), (4, .int 1), (3, .int 0), (2, .int 0), (0, .ref t), (1, .int 0)]) hx hb dX1_fewestCuts_24 hl (by decide) rfl (fun ls hl => ?_)
  refine lv_iload hx hb dX1_fewestCuts_26 (lv_at hl 0 rfl) ?_
  refine lv_iload_n hx hb dX1_fewestCuts_28 rfl (lv_at hl 2 rfl) ?_
  refine lv_icmp_ge (tgt := 48) hx hb dX1_fewestCuts_29 (by decide) (fun c_20 => ?_) (fun c_20 => absurd c_20 (by decide))
  refine lv_iinc (v := 2) (lv' := [(4, .int 2), (5, .int 1), (3, .int 0), (2, .int 0), (0, .ref t), (1, .int 0)]) hx hb dX1_fewestCuts_48 hl (k := 1) rfl (by decide) (by decide) rfl (fun ls hl => ?_)
  refine lv_goto (tgt := 9) hx hb dX1_fewestCuts_51 (by decide) ?_
  refine lv_iload hx hb dX1_fewestCuts_9 (lv_at hl 0 rfl) ?_
  refine lv_aload_n hx hb dX1_fewestCuts_11 rfl (lv_at hl 4 rfl) ?_
  refine hs_ci (va_runV (As := []) (rest := [.int 2]) ⟨hx, hb, hml, hown, hts⟩ (c_allCells0 l D k _ t t_weights t_kindOf t_light t_heavy t_seenBy t_seenCut t_seenFound) (cwV 0 hts gX1_fewestCuts_X6_allCells rfl rfl rfl (by decide +kernel) ⟨Nat.le_of_ble_eq_true rfl, Nat.le_of_ble_eq_true rfl⟩) (hs_preV hK hN (hs_subP (w := [(t, .inr (5, [.ref t_weights, .ref t_kindOf, .ref t_light, .ref t_heavy, .ref t_seenBy, .ref t_seenCut, .ref t_seenFound, .int 2, .int 0, .int 0, .int 0, .int 0, .int 2, .int 0, .int 0]))]) hP [0] rfl) (hD.sub (ws' := [(t, .inr (5, [.ref t_weights, .ref t_kindOf, .ref t_light, .ref t_heavy, .ref t_seenBy, .ref t_seenCut, .ref t_seenFound, .int 2, .int 0, .int 0, .int 0, .int 0, .int 2, .int 0, .int 0]))]) [0] (by decide) rfl) (ci := 5) (q0 := 0) rfl rfl) rfl rfl hl.1 rfl (lv_room (Nat.le_of_ble_eq_true rfl)) dX1_fewestCuts_12 ⟨Nat.le_of_ble_eq_true rfl, Nat.le_of_ble_eq_true rfl⟩) hP hD hS hA [0] [] [] rfl rfl (by decide) (by decide) [0] (fun u_23 => [(t, .inr (5, [.ref t_weights, .ref t_kindOf, .ref t_light, .ref t_heavy, .ref t_seenBy, .ref t_seenCut, .ref t_seenFound, .int 2, .int 0, .int 0, .int 0, .int 0, .int 2, .int 0, .int 0]))]) (fun _ => rfl) (by decide) (fun r_21 u_23 H locs hw_22 hP hD hS => ?_)
  have hP : va_P D vwCl [(t, .inr (5, [.ref t_weights, .ref t_kindOf, .ref t_light, .ref t_heavy, .ref t_seenBy, .ref t_seenCut, .ref t_seenFound, .int 2, .int 0, .int 0, .int 0, .int 0, .int 2, .int 0, .int 0]))] H := hP
  have hD : va_D A [(t, .inr (5, [.ref t_weights, .ref t_kindOf, .ref t_light, .ref t_heavy, .ref t_seenBy, .ref t_seenCut, .ref t_seenFound, .int 2, .int 0, .int 0, .int 0, .int 0, .int 2, .int 0, .int 0]))] := hD
  refine hs_topi 3 (hw_22.trans (by first | rfl | decide +kernel | rfl)) ?_
  refine lv_icmp_gt (tgt := 54) hx hb dX1_fewestCuts_15 (by decide) (fun c_24 => absurd c_24 (by decide)) (fun c_24 => ?_)
  refine lv_aload_n hx hb dX1_fewestCuts_18 rfl (lv_at hl 4 rfl) ?_
  refine lv_iload hx hb dX1_fewestCuts_19 (lv_at hl 0 rfl) ?_
  refine hs_ci (va_runS (As := [.ref t, .int 2]) (rest := []) ⟨hx, hb, hml, hown, hts⟩ (c_cutsOf_2 l D k _ t t_weights t_kindOf t_light t_heavy t_seenBy t_seenCut t_seenFound) (va_cwS 2 hts gX1_fewestCuts_X1_cutsOf rfl rfl rfl (by decide +kernel) ⟨Nat.le_of_ble_eq_true rfl, Nat.le_of_ble_eq_true rfl⟩) (hs_preS hK hN (hs_subP (w := [(t, .inr (5, [.ref t_weights, .ref t_kindOf, .ref t_light, .ref t_heavy, .ref t_seenBy, .ref t_seenCut, .ref t_seenFound, .int 2, .int 0, .int 0, .int 0, .int 0, .int 2, .int 0, .int 0]))]) hP [0] rfl) (hD.sub (ws' := [(t, .inr (5, [.ref t_weights, .ref t_kindOf, .ref t_light, .ref t_heavy, .ref t_seenBy, .ref t_seenCut, .ref t_seenFound, .int 2, .int 0, .int 0, .int 0, .int 0, .int 2, .int 0, .int 0]))]) [0] (by decide) rfl)) rfl rfl hl.1 rfl (lv_room (Nat.le_of_ble_eq_true rfl)) dX1_fewestCuts_21 ⟨Nat.le_of_ble_eq_true rfl, Nat.le_of_ble_eq_true rfl⟩) hP hD hS hA [0] [] [] rfl rfl (by decide) (by decide) [0] (fun u_27 => [(t, .inr (5, [.ref t_weights, .ref t_kindOf, .ref t_light, .ref t_heavy, .ref t_seenBy, .ref t_seenCut, .ref t_seenFound, .int 2, .int 0, .int 0, .int 0, .int 0, .int 2, .int 0, .int 0]))]) (fun _ => rfl) (by decide) (fun r_25 u_27 H locs hw_26 hP hD hS => ?_)
  have hP : va_P D vwCl [(t, .inr (5, [.ref t_weights, .ref t_kindOf, .ref t_light, .ref t_heavy, .ref t_seenBy, .ref t_seenCut, .ref t_seenFound, .int 2, .int 0, .int 0, .int 0, .int 0, .int 2, .int 0, .int 0]))] H := hP
  have hD : va_D A [(t, .inr (5, [.ref t_weights, .ref t_kindOf, .ref t_light, .ref t_heavy, .ref t_seenBy, .ref t_seenCut, .ref t_seenFound, .int 2, .int 0, .int 0, .int 0, .int 0, .int 2, .int 0, .int 0]))] := hD
  refine hs_topi 1 (hw_26.trans (by first | rfl | decide +kernel | rfl)) ?_
  refine lv_istore (lv' := [(5, .int 1), (4, .int 2), (3, .int 0), (2, .int 0), (0, .ref t), (1, .int 0)]) hx hb dX1_fewestCuts_24 hl (by decide) rfl (fun ls hl => ?_)
  refine lv_iload hx hb dX1_fewestCuts_26 (lv_at hl 0 rfl) ?_
  refine lv_iload_n hx hb dX1_fewestCuts_28 rfl (lv_at hl 2 rfl) ?_
  refine lv_icmp_ge (tgt := 48) hx hb dX1_fewestCuts_29 (by decide) (fun c_28 => ?_) (fun c_28 => absurd c_28 (by decide))
  refine lv_iinc (v := 3) (lv' := [(4, .int 3), (5, .int 1), (3, .int 0), (2, .int 0), (0, .ref t), (1, .int 0)]) hx hb dX1_fewestCuts_48 hl (k := 1) rfl (by decide) (by decide) rfl (fun ls hl => ?_)
  refine lv_goto (tgt := 9) hx hb dX1_fewestCuts_51 (by decide) ?_
  refine lv_iload hx hb dX1_fewestCuts_9 (lv_at hl 0 rfl) ?_
  refine lv_aload_n hx hb dX1_fewestCuts_11 rfl (lv_at hl 4 rfl) ?_
  refine hs_ci (va_runV (As := []) (rest := [.int 3]) ⟨hx, hb, hml, hown, hts⟩ (c_allCells0 l D k _ t t_weights t_kindOf t_light t_heavy t_seenBy t_seenCut t_seenFound) (cwV 0 hts gX1_fewestCuts_X6_allCells rfl rfl rfl (by decide +kernel) ⟨Nat.le_of_ble_eq_true rfl, Nat.le_of_ble_eq_true rfl⟩) (hs_preV hK hN (hs_subP (w := [(t, .inr (5, [.ref t_weights, .ref t_kindOf, .ref t_light, .ref t_heavy, .ref t_seenBy, .ref t_seenCut, .ref t_seenFound, .int 2, .int 0, .int 0, .int 0, .int 0, .int 2, .int 0, .int 0]))]) hP [0] rfl) (hD.sub (ws' := [(t, .inr (5, [.ref t_weights, .ref t_kindOf, .ref t_light, .ref t_heavy, .ref t_seenBy, .ref t_seenCut, .ref t_seenFound, .int 2, .int 0, .int 0, .int 0, .int 0, .int 2, .int 0, .int 0]))]) [0] (by decide) rfl) (ci := 5) (q0 := 0) rfl rfl) rfl rfl hl.1 rfl (lv_room (Nat.le_of_ble_eq_true rfl)) dX1_fewestCuts_12 ⟨Nat.le_of_ble_eq_true rfl, Nat.le_of_ble_eq_true rfl⟩) hP hD hS hA [0] [] [] rfl rfl (by decide) (by decide) [0] (fun u_31 => [(t, .inr (5, [.ref t_weights, .ref t_kindOf, .ref t_light, .ref t_heavy, .ref t_seenBy, .ref t_seenCut, .ref t_seenFound, .int 2, .int 0, .int 0, .int 0, .int 0, .int 2, .int 0, .int 0]))]) (fun _ => rfl) (by decide) (fun r_29 u_31 H locs hw_30 hP hD hS => ?_)
  have hP : va_P D vwCl [(t, .inr (5, [.ref t_weights, .ref t_kindOf, .ref t_light, .ref t_heavy, .ref t_seenBy, .ref t_seenCut, .ref t_seenFound, .int 2, .int 0, .int 0, .int 0, .int 0, .int 2, .int 0, .int 0]))] H := hP
  have hD : va_D A [(t, .inr (5, [.ref t_weights, .ref t_kindOf, .ref t_light, .ref t_heavy, .ref t_seenBy, .ref t_seenCut, .ref t_seenFound, .int 2, .int 0, .int 0, .int 0, .int 0, .int 2, .int 0, .int 0]))] := hD
  refine hs_topi 3 (hw_30.trans (by first | rfl | decide +kernel | rfl)) ?_
  refine lv_icmp_gt (tgt := 54) hx hb dX1_fewestCuts_15 (by decide) (fun c_32 => absurd c_32 (by decide)) (fun c_32 => ?_)
  refine lv_aload_n hx hb dX1_fewestCuts_18 rfl (lv_at hl 4 rfl) ?_
  refine lv_iload hx hb dX1_fewestCuts_19 (lv_at hl 0 rfl) ?_
  refine hs_ci (va_runS (As := [.ref t, .int 3]) (rest := []) ⟨hx, hb, hml, hown, hts⟩ (c_cutsOf_3 l D k _ t t_weights t_kindOf t_light t_heavy t_seenBy t_seenCut t_seenFound) (va_cwS 2 hts gX1_fewestCuts_X1_cutsOf rfl rfl rfl (by decide +kernel) ⟨Nat.le_of_ble_eq_true rfl, Nat.le_of_ble_eq_true rfl⟩) (hs_preS hK hN (hs_subP (w := [(t, .inr (5, [.ref t_weights, .ref t_kindOf, .ref t_light, .ref t_heavy, .ref t_seenBy, .ref t_seenCut, .ref t_seenFound, .int 2, .int 0, .int 0, .int 0, .int 0, .int 2, .int 0, .int 0]))]) hP [0] rfl) (hD.sub (ws' := [(t, .inr (5, [.ref t_weights, .ref t_kindOf, .ref t_light, .ref t_heavy, .ref t_seenBy, .ref t_seenCut, .ref t_seenFound, .int 2, .int 0, .int 0, .int 0, .int 0, .int 2, .int 0, .int 0]))]) [0] (by decide) rfl)) rfl rfl hl.1 rfl (lv_room (Nat.le_of_ble_eq_true rfl)) dX1_fewestCuts_21 ⟨Nat.le_of_ble_eq_true rfl, Nat.le_of_ble_eq_true rfl⟩) hP hD hS hA [0] [] [] rfl rfl (by decide) (by decide) [0] (fun u_35 => [(t, .inr (5, [.ref t_weights, .ref t_kindOf, .ref t_light, .ref t_heavy, .ref t_seenBy, .ref t_seenCut, .ref t_seenFound, .int 2, .int 0, .int 0, .int 0, .int 0, .int 2, .int 0, .int 0]))]) (fun _ => rfl) (by decide) (fun r_33 u_35 H locs hw_34 hP hD hS => ?_)
  have hP : va_P D vwCl [(t, .inr (5, [.ref t_weights, .ref t_kindOf, .ref t_light, .ref t_heavy, .ref t_seenBy, .ref t_seenCut, .ref t_seenFound, .int 2, .int 0, .int 0, .int 0, .int 0, .int 2, .int 0, .int 0]))] H := hP
  have hD : va_D A [(t, .inr (5, [.ref t_weights, .ref t_kindOf, .ref t_light, .ref t_heavy, .ref t_seenBy, .ref t_seenCut, .ref t_seenFound, .int 2, .int 0, .int 0, .int 0, .int 0, .int 2, .int 0, .int 0]))] := hD
  refine hs_topi 0 (hw_34.trans (by first | rfl | decide +kernel | rfl)) ?_
  refine lv_istore (lv' := [(5, .int 0), (4, .int 3), (3, .int 0), (2, .int 0), (0, .ref t), (1, .int 0)]) hx hb dX1_fewestCuts_24 hl (by decide) rfl (fun ls hl => ?_)
  refine lv_iload hx hb dX1_fewestCuts_26 (lv_at hl 0 rfl) ?_
  refine lv_iload_n hx hb dX1_fewestCuts_28 rfl (lv_at hl 2 rfl) ?_
  refine lv_icmp_ge (tgt := 48) hx hb dX1_fewestCuts_29 (by decide) (fun c_36 => ?_) (fun c_36 => absurd c_36 (by decide))
  refine lv_iinc (v := 4) (lv' := [(4, .int 4), (5, .int 0), (3, .int 0), (2, .int 0), (0, .ref t), (1, .int 0)]) hx hb dX1_fewestCuts_48 hl (k := 1) rfl (by decide) (by decide) rfl (fun ls hl => ?_)
  refine lv_goto (tgt := 9) hx hb dX1_fewestCuts_51 (by decide) ?_
  refine lv_iload hx hb dX1_fewestCuts_9 (lv_at hl 0 rfl) ?_
  refine lv_aload_n hx hb dX1_fewestCuts_11 rfl (lv_at hl 4 rfl) ?_
  refine hs_ci (va_runV (As := []) (rest := [.int 4]) ⟨hx, hb, hml, hown, hts⟩ (c_allCells0 l D k _ t t_weights t_kindOf t_light t_heavy t_seenBy t_seenCut t_seenFound) (cwV 0 hts gX1_fewestCuts_X6_allCells rfl rfl rfl (by decide +kernel) ⟨Nat.le_of_ble_eq_true rfl, Nat.le_of_ble_eq_true rfl⟩) (hs_preV hK hN (hs_subP (w := [(t, .inr (5, [.ref t_weights, .ref t_kindOf, .ref t_light, .ref t_heavy, .ref t_seenBy, .ref t_seenCut, .ref t_seenFound, .int 2, .int 0, .int 0, .int 0, .int 0, .int 2, .int 0, .int 0]))]) hP [0] rfl) (hD.sub (ws' := [(t, .inr (5, [.ref t_weights, .ref t_kindOf, .ref t_light, .ref t_heavy, .ref t_seenBy, .ref t_seenCut, .ref t_seenFound, .int 2, .int 0, .int 0, .int 0, .int 0, .int 2, .int 0, .int 0]))]) [0] (by decide) rfl) (ci := 5) (q0 := 0) rfl rfl) rfl rfl hl.1 rfl (lv_room (Nat.le_of_ble_eq_true rfl)) dX1_fewestCuts_12 ⟨Nat.le_of_ble_eq_true rfl, Nat.le_of_ble_eq_true rfl⟩) hP hD hS hA [0] [] [] rfl rfl (by decide) (by decide) [0] (fun u_39 => [(t, .inr (5, [.ref t_weights, .ref t_kindOf, .ref t_light, .ref t_heavy, .ref t_seenBy, .ref t_seenCut, .ref t_seenFound, .int 2, .int 0, .int 0, .int 0, .int 0, .int 2, .int 0, .int 0]))]) (fun _ => rfl) (by decide) (fun r_37 u_39 H locs hw_38 hP hD hS => ?_)
  have hP : va_P D vwCl [(t, .inr (5, [.ref t_weights, .ref t_kindOf, .ref t_light, .ref t_heavy, .ref t_seenBy, .ref t_seenCut, .ref t_seenFound, .int 2, .int 0, .int 0, .int 0, .int 0, .int 2, .int 0, .int 0]))] H := hP
  have hD : va_D A [(t, .inr (5, [.ref t_weights, .ref t_kindOf, .ref t_light, .ref t_heavy, .ref t_seenBy, .ref t_seenCut, .ref t_seenFound, .int 2, .int 0, .int 0, .int 0, .int 0, .int 2, .int 0, .int 0]))] := hD
  refine hs_topi 3 (hw_38.trans (by first | rfl | decide +kernel | rfl)) ?_
  refine lv_icmp_gt (tgt := 54) hx hb dX1_fewestCuts_15 (by decide) (fun c_40 => ?_) (fun c_40 => absurd c_40 (by decide))
  refine lv_iload_n hx hb dX1_fewestCuts_54 rfl (lv_at hl 3 rfl) ?_
  exact hs_iret hx hb hr hlocks hK hP hD hS () [0] rfl (by decide) dX1_fewestCuts_55 (rfl)
