set_option maxHeartbeats 4000000 in
set_option maxRecDepth 100000 in
theorem c_isLane (l : Launch) (D : va_G) (k : Nat → ClassId) (sz : Nat) (v : Int32)  : MI l yX3_isLane wsX3_isLane ({ frames := 1, cells := 0, slots := 0, locals := 22 }) D k [.int v] [] sz (fun (r : Int32) (u : Unit) => r = hsb (hsin v 0 2)) (fun (u : Unit) => []) := by
  refine Met.ofW (cc := cX3_isLane) (maxL := 1) (ret := (some .boolean)) (by decide) rfl ?_
  intro p e s m args below meth c s₁ B hml hv
  obtain ⟨rfl, hsz, hP, hK, hD0, hN⟩ := hv
  have hx := B.exec
  have hb := B.bytes
  have hr := B.returns
  have hlocks := B.notSynchronized
  have hts := atoms_spec (ws := wsX3_isLane) B.pre
  have hown : s.vm.findClass RX3 = some m.cls := findClass_of_methodNamed B.named
  have iniX7 := hts (.initialized RX7) (by decide +kernel)
  have st_X7_within := hts (.static yX7_within) (by decide +kernel)
  subst hsz
  have hD := hD0.self (sz := s.heap.size)
  generalize hAe : va_A [] s.heap.size = A at hD ⊢
  have hA : ∀ q : Nat, s.heap.size ≤ q → A q := fun q h => by rw [← hAe]; exact Or.inr h
  have hS : va_S A s.heap s.heap [] := va_S.rf
  have hl := lv_entry ([.int v]) (n := 1) (Nat.le_of_ble_eq_true rfl)
  rw [lg_entry_eq]
  generalize (lg_sl ([.int v]) ++ List.replicate (1 - (lg_sl ([.int v])).length) Slot.unset).toArray = ls at hl ⊢
  have hl : lv_has ls 1 [(0, .int v)] := hl
  have hP : va_P D vwCl [] s.heap := hP
  refine lv_iload_n hx hb dX3_isLane_0 rfl (lv_at hl 0 rfl) ?_
  refine lv_iconst (v := 0) hx hb dX3_isLane_1 (by decide) ?_
  refine lv_iconst (v := 2) hx hb dX3_isLane_2 (by decide) ?_
  refine hs_pi (va_runSN (As := [.int v, .int 0, .int 2]) (rest := []) ⟨hx, hb, hml, hown, hts⟩ (c_within l D k _ v 0 2) ⟨(va_cnB 3 hts gX3_isLane_X7_within_n17 rfl rfl rfl hN.2.2.2.2.2.2.2.2.1 iniX7 (by decide +kernel) ⟨Nat.le_of_ble_eq_true rfl, Nat.le_of_ble_eq_true rfl⟩), st_X7_within, trivial⟩ (hs_preS hK hN (hs_subP (w := []) hP [] rfl) (hD.sub (ws' := []) [] (by decide) rfl)) rfl rfl hl.1 rfl (lv_room (Nat.le_of_ble_eq_true rfl)) dX3_isLane_3 ⟨Nat.le_of_ble_eq_true rfl, Nat.le_of_ble_eq_true rfl⟩) hP hD hS hA (fun r_1 u_3 H locs hw_2 hP hS => ?_)
  refine hs_topi (hsb (hsin v 0 2)) hw_2 ?_
  exact hs_zret hx hb hr hlocks hK hP hD hS () [] rfl (by decide) dX3_isLane_6 (hsb_n _) (rfl)

set_option maxHeartbeats 4000000 in
set_option maxRecDepth 100000 in
theorem c_isNothing0 (l : Launch) (D : va_G) (k : Nat → ClassId) (sz : Nat) (q : Nat) (q_row : Nat)  : MI l yX3_isNothing wsX3_isNothing ({ frames := 0, cells := 0, slots := 0, locals := 0 }) D k [.ref q] [(q, .inr (2, [.ref q_row, .int (-1), .int 0]))] sz (fun (r : Int32) (u : Unit) => r = 1) (fun (u : Unit) => [(q, .inr (2, [.ref q_row, .int (-1), .int 0]))]) := by
  refine Met.ofW (cc := cX3_isNothing) (maxL := 1) (ret := (some .boolean)) (by decide) rfl ?_
  intro p e s m args below meth c s₁ B hml hv
  obtain ⟨rfl, hsz, hP, hK, hD0, hN⟩ := hv
  have hx := B.exec
  have hb := B.bytes
  have hr := B.returns
  have hlocks := B.notSynchronized
  have hts := atoms_spec (ws := wsX3_isNothing) B.pre
  have hown : s.vm.findClass RX3 = some m.cls := findClass_of_methodNamed B.named
  have hiX3 : ∀ w ∈ u_ws RX3 TX3 3, w ∈ wsX3_isNothing := by decide +kernel
  have fl13 := hts (.fieldLink RX3 13 "HalfScales$Sheet" "laneOf" "I") (by decide +kernel)
  subst hsz
  have hD := hD0.self (sz := s.heap.size)
  generalize hAe : va_A [(q, .inr (2, [.ref q_row, .int (-1), .int 0]))] s.heap.size = A at hD ⊢
  have hA : ∀ q : Nat, s.heap.size ≤ q → A q := fun q h => by rw [← hAe]; exact Or.inr h
  have hS : va_S A s.heap s.heap [] := va_S.rf
  have hl := lv_entry ([.ref q]) (n := 1) (Nat.le_of_ble_eq_true rfl)
  rw [lg_entry_eq]
  generalize (lg_sl ([.ref q]) ++ List.replicate (1 - (lg_sl ([.ref q])).length) Slot.unset).toArray = ls at hl ⊢
  have hl : lv_has ls 1 [(0, .ref q)] := hl
  have hP : va_P D vwCl [(q, .inr (2, [.ref q_row, .int (-1), .int 0]))] s.heap := hP
  refine lv_aload_n hx hb dX3_isNothing_0 rfl (lv_at hl 0 rfl) ?_
  refine va_get (D := D) (ci := 2) (v := .int (-1)) (C := RX3) (T := TX3) (N := 3) hx hb hts hiX3 hown hK hP 0 rfl rfl 1 (by decide) fl13 (fun _ h9 => h9) rfl dX3_isNothing_1 ?_
  refine lv_iconst (v := (-1)) hx hb dX3_isNothing_4 (by decide) ?_
  refine lv_icmp_ne (tgt := 12) hx hb dX3_isNothing_5 (by decide) (fun c_1 => absurd c_1 (by decide)) (fun c_1 => ?_)
  refine lv_iconst (v := 1) hx hb dX3_isNothing_8 (by decide) ?_
  refine lv_goto (tgt := 13) hx hb dX3_isNothing_9 (by decide) ?_
  exact hs_zret hx hb hr hlocks hK hP hD hS () [0] rfl (by decide) dX3_isNothing_13 rfl (rfl)

set_option maxHeartbeats 4000000 in
set_option maxRecDepth 100000 in
theorem c_faultAt0 (l : Launch) (D : va_G) (k : Nat → ClassId) (sz : Nat) (q : Nat) (q_row : Nat) (i : Int32)  : MI l yX3_faultAt wsX3_faultAt ({ frames := 1, cells := 0, slots := 0, locals := 20 }) D k [.ref q, .int i] [(q, .inr (2, [.ref q_row, .int (-1), .int 0]))] sz (fun (r : Int32) (u : Unit) => r = 1) (fun (u : Unit) => [(q, .inr (2, [.ref q_row, .int (-1), .int 0]))]) := by
  refine Met.ofW (cc := cX3_faultAt) (maxL := 2) (ret := (some .int)) (by decide) rfl ?_
  intro p e s m args below meth c s₁ B hml hv
  obtain ⟨rfl, hsz, hP, hK, hD0, hN⟩ := hv
  have hx := B.exec
  have hb := B.bytes
  have hr := B.returns
  have hlocks := B.notSynchronized
  have hts := atoms_spec (ws := wsX3_faultAt) B.pre
  have hown : s.vm.findClass RX3 = some m.cls := findClass_of_methodNamed B.named
  subst hsz
  have hD := hD0.self (sz := s.heap.size)
  generalize hAe : va_A [(q, .inr (2, [.ref q_row, .int (-1), .int 0]))] s.heap.size = A at hD ⊢
  have hA : ∀ q : Nat, s.heap.size ≤ q → A q := fun q h => by rw [← hAe]; exact Or.inr h
  have hS : va_S A s.heap s.heap [] := va_S.rf
  have hl := lv_entry ([.ref q, .int i]) (n := 2) (Nat.le_of_ble_eq_true rfl)
  rw [lg_entry_eq]
  generalize (lg_sl ([.ref q, .int i]) ++ List.replicate (2 - (lg_sl ([.ref q, .int i])).length) Slot.unset).toArray = ls at hl ⊢
  have hl : lv_has ls 2 [(0, .ref q), (1, .int i)] := hl
  have hP : va_P D vwCl [(q, .inr (2, [.ref q_row, .int (-1), .int 0]))] s.heap := hP
  refine lv_aload_n hx hb dX3_faultAt_0 rfl (lv_at hl 0 rfl) ?_
  refine hs_ci (va_runV (As := []) (rest := []) ⟨hx, hb, hml, hown, hts⟩ (c_isNothing0 l D k _ q q_row) (cwV 0 hts gX3_faultAt_X3_isNothing rfl rfl rfl (by decide +kernel) ⟨Nat.le_of_ble_eq_true rfl, Nat.le_of_ble_eq_true rfl⟩) (hs_preV hK hN (hs_subP (w := [(q, .inr (2, [.ref q_row, .int (-1), .int 0]))]) hP [0] rfl) (hD.sub (ws' := [(q, .inr (2, [.ref q_row, .int (-1), .int 0]))]) [0] (by decide) rfl) (ci := 2) (q0 := 0) rfl rfl) rfl rfl hl.1 rfl (lv_room (Nat.le_of_ble_eq_true rfl)) dX3_faultAt_1 ⟨Nat.le_of_ble_eq_true rfl, Nat.le_of_ble_eq_true rfl⟩) hP hD hS hA [0] [] [] rfl rfl (by decide) (by decide) [0] (fun u_3 => [(q, .inr (2, [.ref q_row, .int (-1), .int 0]))]) (fun _ => rfl) (by decide) (fun r_1 u_3 H locs hw_2 hP hD hS => ?_)
  have hP : va_P D vwCl [(q, .inr (2, [.ref q_row, .int (-1), .int 0]))] H := hP
  have hD : va_D A [(q, .inr (2, [.ref q_row, .int (-1), .int 0]))] := hD
  refine hs_topi 1 (hw_2.trans (by first | rfl | decide +kernel | rfl)) ?_
  refine lv_if_eq (tgt := 9) hx hb dX3_faultAt_4 (by decide) (fun c_4 => absurd c_4 (by decide)) (fun c_4 => ?_)
  refine lv_iconst (v := 1) hx hb dX3_faultAt_7 (by decide) ?_
  exact hs_iret hx hb hr hlocks hK hP hD hS () [0] rfl (by decide) dX3_faultAt_8 (rfl)

set_option maxHeartbeats 4000000 in
set_option maxRecDepth 100000 in
theorem c_faultOfTwo0 (l : Launch) (D : va_G) (k : Nat → ClassId) (sz : Nat) (q : Nat) (q_row : Nat) (la : Int32) (i : Int32)  : MI l yX3_faultOfTwo wsX3_faultOfTwo ({ frames := 2, cells := 0, slots := 0, locals := 41 }) D k [.ref q, .int la, .int i] [(q, .inr (2, [.ref q_row, .int (-1), .int 0]))] sz (fun (r : Int32) (u : Unit) => r = 1) (fun (u : Unit) => [(q, .inr (2, [.ref q_row, .int (-1), .int 0]))]) := by
  refine Met.ofW (cc := cX3_faultOfTwo) (maxL := 4) (ret := (some .int)) (by decide) rfl ?_
  intro p e s m args below meth c s₁ B hml hv
  obtain ⟨rfl, hsz, hP, hK, hD0, hN⟩ := hv
  have hx := B.exec
  have hb := B.bytes
  have hr := B.returns
  have hlocks := B.notSynchronized
  have hts := atoms_spec (ws := wsX3_faultOfTwo) B.pre
  have hown : s.vm.findClass RX3 = some m.cls := findClass_of_methodNamed B.named
  subst hsz
  have hD := hD0.self (sz := s.heap.size)
  generalize hAe : va_A [(q, .inr (2, [.ref q_row, .int (-1), .int 0]))] s.heap.size = A at hD ⊢
  have hA : ∀ q : Nat, s.heap.size ≤ q → A q := fun q h => by rw [← hAe]; exact Or.inr h
  have hS : va_S A s.heap s.heap [] := va_S.rf
  have hl := lv_entry ([.ref q, .int la, .int i]) (n := 4) (Nat.le_of_ble_eq_true rfl)
  rw [lg_entry_eq]
  generalize (lg_sl ([.ref q, .int la, .int i]) ++ List.replicate (4 - (lg_sl ([.ref q, .int la, .int i])).length) Slot.unset).toArray = ls at hl ⊢
  have hl : lv_has ls 4 [(0, .ref q), (1, .int la), (2, .int i)] := hl
  have hP : va_P D vwCl [(q, .inr (2, [.ref q_row, .int (-1), .int 0]))] s.heap := hP
  refine lv_aload_n hx hb dX3_faultOfTwo_0 rfl (lv_at hl 0 rfl) ?_
  refine hs_ci (va_runV (As := []) (rest := []) ⟨hx, hb, hml, hown, hts⟩ (c_isNothing0 l D k _ q q_row) (cwV 0 hts gX3_faultOfTwo_X3_isNothing rfl rfl rfl (by decide +kernel) ⟨Nat.le_of_ble_eq_true rfl, Nat.le_of_ble_eq_true rfl⟩) (hs_preV hK hN (hs_subP (w := [(q, .inr (2, [.ref q_row, .int (-1), .int 0]))]) hP [0] rfl) (hD.sub (ws' := [(q, .inr (2, [.ref q_row, .int (-1), .int 0]))]) [0] (by decide) rfl) (ci := 2) (q0 := 0) rfl rfl) rfl rfl hl.1 rfl (lv_room (Nat.le_of_ble_eq_true rfl)) dX3_faultOfTwo_1 ⟨Nat.le_of_ble_eq_true rfl, Nat.le_of_ble_eq_true rfl⟩) hP hD hS hA [0] [] [] rfl rfl (by decide) (by decide) [0] (fun u_3 => [(q, .inr (2, [.ref q_row, .int (-1), .int 0]))]) (fun _ => rfl) (by decide) (fun r_1 u_3 H locs hw_2 hP hD hS => ?_)
  have hP : va_P D vwCl [(q, .inr (2, [.ref q_row, .int (-1), .int 0]))] H := hP
  have hD : va_D A [(q, .inr (2, [.ref q_row, .int (-1), .int 0]))] := hD
  refine hs_topi 1 (hw_2.trans (by first | rfl | decide +kernel | rfl)) ?_
  refine lv_if_ne (tgt := 17) hx hb dX3_faultOfTwo_4 (by decide) (fun c_4 => ?_) (fun c_4 => absurd c_4 (by decide))
  refine lv_aload_n hx hb dX3_faultOfTwo_17 rfl (lv_at hl 0 rfl) ?_
  refine lv_iload_n hx hb dX3_faultOfTwo_18 rfl (lv_at hl 2 rfl) ?_
  refine hs_ci (va_runV (As := [.int i]) (rest := []) ⟨hx, hb, hml, hown, hts⟩ (c_faultAt0 l D k _ q q_row i) (cwV 1 hts gX3_faultOfTwo_X3_faultAt rfl rfl rfl (by decide +kernel) ⟨Nat.le_of_ble_eq_true rfl, Nat.le_of_ble_eq_true rfl⟩) (hs_preV hK hN (hs_subP (w := [(q, .inr (2, [.ref q_row, .int (-1), .int 0]))]) hP [0] rfl) (hD.sub (ws' := [(q, .inr (2, [.ref q_row, .int (-1), .int 0]))]) [0] (by decide) rfl) (ci := 2) (q0 := 0) rfl rfl) rfl rfl hl.1 rfl (lv_room (Nat.le_of_ble_eq_true rfl)) dX3_faultOfTwo_19 ⟨Nat.le_of_ble_eq_true rfl, Nat.le_of_ble_eq_true rfl⟩) hP hD hS hA [0] [] [] rfl rfl (by decide) (by decide) [0] (fun u_7 => [(q, .inr (2, [.ref q_row, .int (-1), .int 0]))]) (fun _ => rfl) (by decide) (fun r_5 u_7 H locs hw_6 hP hD hS => ?_)
  have hP : va_P D vwCl [(q, .inr (2, [.ref q_row, .int (-1), .int 0]))] H := hP
  have hD : va_D A [(q, .inr (2, [.ref q_row, .int (-1), .int 0]))] := hD
  refine hs_topi 1 (hw_6.trans (by first | rfl | decide +kernel | rfl)) ?_
  refine lv_istore_n (lv' := [(3, .int 1), (0, .ref q), (1, .int la), (2, .int i)]) hx hb dX3_faultOfTwo_22 rfl hl (by decide) rfl (fun ls hl => ?_)
  refine lv_iload_n hx hb dX3_faultOfTwo_23 rfl (lv_at hl 0 rfl) ?_
  refine lv_if_eq (tgt := 31) hx hb dX3_faultOfTwo_24 (by decide) (fun c_8 => absurd c_8 (by decide)) (fun c_8 => ?_)
  refine lv_iload_n hx hb dX3_faultOfTwo_27 rfl (lv_at hl 0 rfl) ?_
  refine lv_goto (tgt := 38) hx hb dX3_faultOfTwo_28 (by decide) ?_
  exact hs_iret hx hb hr hlocks hK hP hD hS () [0] rfl (by decide) dX3_faultOfTwo_38 (rfl)

set_option maxHeartbeats 4000000 in
set_option maxRecDepth 100000 in
theorem c_renew0 (l : Launch) (D : va_G) (k : Nat → ClassId) (sz : Nat) (q : Nat) (q_row : Nat) (la : Int32) (n : Int32)  : MV l yX3_renew wsX3_renew ({ frames := 0, cells := 0, slots := 0, locals := 0 }) D k [.ref q, .int la, .int n] [(q, .inr (2, [.ref q_row, .int (-1), .int 0])), (q_row, .inl (k 0, 40, .inl (hsz)))] sz (fun (u : Unit) => True) (fun (u : Unit) => []) := by
  refine Met.ofW (cc := cX3_renew) (maxL := 4) (ret := none) (by decide) rfl ?_
  intro p e s m args below meth c s₁ B hml hv
  obtain ⟨rfl, hsz, hP, hK, hD0, hN⟩ := hv
  have hx := B.exec
  have hb := B.bytes
  have hr := B.returns
  have hlocks := B.notSynchronized
  have hts := atoms_spec (ws := wsX3_renew) B.pre
  have hown : s.vm.findClass RX3 = some m.cls := findClass_of_methodNamed B.named
  have hiX3 : ∀ w ∈ u_ws RX3 TX3 3, w ∈ wsX3_renew := by decide +kernel
  have fl13 := hts (.fieldLink RX3 13 "HalfScales$Sheet" "laneOf" "I") (by decide +kernel)
  have fl23 := hts (.fieldLink RX3 23 "HalfScales$Sheet" "size" "I") (by decide +kernel)
  have fl9 := hts (.fieldLink RX3 9 "HalfScales$Sheet" "row" "[I") (by decide +kernel)
  subst hsz
  have hD := hD0.self (sz := s.heap.size)
  generalize hAe : va_A [(q, .inr (2, [.ref q_row, .int (-1), .int 0])), (q_row, .inl (k 0, 40, .inl (hsz)))] s.heap.size = A at hD ⊢
  have hA : ∀ q : Nat, s.heap.size ≤ q → A q := fun q h => by rw [← hAe]; exact Or.inr h
  have hS : va_S A s.heap s.heap [] := va_S.rf
  have hl := lv_entry ([.ref q, .int la, .int n]) (n := 4) (Nat.le_of_ble_eq_true rfl)
  rw [lg_entry_eq]
  generalize (lg_sl ([.ref q, .int la, .int n]) ++ List.replicate (4 - (lg_sl ([.ref q, .int la, .int n])).length) Slot.unset).toArray = ls at hl ⊢
  have hl : lv_has ls 4 [(0, .ref q), (1, .int la), (2, .int n)] := hl
  have hP : va_P D vwCl [(q, .inr (2, [.ref q_row, .int (-1), .int 0])), (q_row, .inl (k 0, 40, .inl (hsz)))] s.heap := hP
  refine lv_aload_n hx hb dX3_renew_0 rfl (lv_at hl 0 rfl) ?_
  refine lv_iload_n hx hb dX3_renew_1 rfl (lv_at hl 1 rfl) ?_
  refine va_put (D := D) (ci := 2) (v := .int la) (ty := .int) (C := RX3) (T := TX3) (N := 3) hx hb hts hiX3 tyX3 tyX3_ok nmX3 hown hK hP hD hS 0 rfl rfl 1 (by decide) fl13 (fun _ h9 => h9) rfl (by decide +kernel) rfl rfl (Nat.le_of_ble_eq_true rfl) dX3_renew_2 (fun H locs hP hD hS => ?_)
  have hP : va_P D vwCl [(q, .inr (2, [.ref q_row, .int la, .int 0])), (q_row, .inl (k 0, 40, .inl (hsz)))] H := hP
  have hD : va_D A [(q, .inr (2, [.ref q_row, .int la, .int 0])), (q_row, .inl (k 0, 40, .inl (hsz)))] := hD
  refine lv_aload_n hx hb dX3_renew_5 rfl (lv_at hl 0 rfl) ?_
  refine lv_iload_n hx hb dX3_renew_6 rfl (lv_at hl 2 rfl) ?_
  refine va_put (D := D) (ci := 2) (v := .int n) (ty := .int) (C := RX3) (T := TX3) (N := 3) hx hb hts hiX3 tyX3 tyX3_ok nmX3 hown hK hP hD hS 0 rfl rfl 2 (by decide) fl23 (fun _ h9 => h9) rfl (by decide +kernel) rfl rfl (Nat.le_of_ble_eq_true rfl) dX3_renew_7 (fun H locs hP hD hS => ?_)
  have hP : va_P D vwCl [(q, .inr (2, [.ref q_row, .int la, .int n])), (q_row, .inl (k 0, 40, .inl (hsz)))] H := hP
  have hD : va_D A [(q, .inr (2, [.ref q_row, .int la, .int n])), (q_row, .inl (k 0, 40, .inl (hsz)))] := hD
  refine lv_iconst (v := 0) hx hb dX3_renew_10 (by decide) ?_
  refine lv_istore_n (lv' := [(3, .int 0), (0, .ref q), (1, .int la), (2, .int n)]) hx hb dX3_renew_11 rfl hl (by decide) rfl (fun ls hl => ?_)
  refine lv_iload_n hx hb dX3_renew_12 rfl (lv_at hl 0 rfl) ?_
  refine lv_bipush (v := 40) hx hb dX3_renew_13 (by decide) ?_
  refine lv_icmp_ge (tgt := 31) hx hb dX3_renew_15 (by decide) (fun c_1 => absurd c_1 (by decide)) (fun c_1 => ?_)
  refine lv_aload_n hx hb dX3_renew_18 rfl (lv_at hl 1 rfl) ?_
  refine va_get (D := D) (ci := 2) (v := .ref q_row) (C := RX3) (T := TX3) (N := 3) hx hb hts hiX3 hown hK hP 0 rfl rfl 0 (by decide) fl9 (fun _ h9 => h9) rfl dX3_renew_19 ?_
  refine lv_iload_n hx hb dX3_renew_22 rfl (lv_at hl 0 rfl) ?_
  refine lv_iconst (v := 0) hx hb dX3_renew_23 (by decide) ?_
  refine va_iast hx hb hK hP hD hS 1 0 rfl rfl (hs_in (by decide)) dX3_renew_24 (fun H locs hP hD hS => ?_)
  have hE : upd hsz 0 0 = hsz := hs_uz 0
  have hP : va_P D vwCl [(q, .inr (2, [.ref q_row, .int la, .int n])), (q_row, .inl (k 0, 40, .inl (upd hsz 0 0)))] H := hP
  have hD : va_D A [(q, .inr (2, [.ref q_row, .int la, .int n])), (q_row, .inl (k 0, 40, .inl (upd hsz 0 0)))] := hD
  rw [hE] at hP hD
  refine lv_iinc (v := 1) (lv' := [(3, .int 1), (0, .ref q), (1, .int la), (2, .int n)]) hx hb dX3_renew_25 hl (k := 0) rfl (by decide) (by decide) rfl (fun ls hl => ?_)
  refine lv_goto (tgt := 12) hx hb dX3_renew_28 (by decide) ?_
  refine lv_iload_n hx hb dX3_renew_12 rfl (lv_at hl 0 rfl) ?_
  refine lv_bipush (v := 40) hx hb dX3_renew_13 (by decide) ?_
  refine lv_icmp_ge (tgt := 31) hx hb dX3_renew_15 (by decide) (fun c_2 => absurd c_2 (by decide)) (fun c_2 => ?_)
  refine lv_aload_n hx hb dX3_renew_18 rfl (lv_at hl 1 rfl) ?_
  refine va_get (D := D) (ci := 2) (v := .ref q_row) (C := RX3) (T := TX3) (N := 3) hx hb hts hiX3 hown hK hP 0 rfl rfl 0 (by decide) fl9 (fun _ h9 => h9) rfl dX3_renew_19 ?_
  refine lv_iload_n hx hb dX3_renew_22 rfl (lv_at hl 0 rfl) ?_
  refine lv_iconst (v := 0) hx hb dX3_renew_23 (by decide) ?_
  refine va_iast hx hb hK hP hD hS 1 0 rfl rfl (hs_in (by decide)) dX3_renew_24 (fun H locs hP hD hS => ?_)
  have hE : upd hsz 1 0 = hsz := hs_uz 1
  have hP : va_P D vwCl [(q, .inr (2, [.ref q_row, .int la, .int n])), (q_row, .inl (k 0, 40, .inl (upd hsz 1 0)))] H := hP
  have hD : va_D A [(q, .inr (2, [.ref q_row, .int la, .int n])), (q_row, .inl (k 0, 40, .inl (upd hsz 1 0)))] := hD
  rw [hE] at hP hD
  refine lv_iinc (v := 2) (lv' := [(3, .int 2), (0, .ref q), (1, .int la), (2, .int n)]) hx hb dX3_renew_25 hl (k := 0) rfl (by decide) (by decide) rfl (fun ls hl => ?_)
  refine lv_goto (tgt := 12) hx hb dX3_renew_28 (by decide) ?_
  refine lv_iload_n hx hb dX3_renew_12 rfl (lv_at hl 0 rfl) ?_
  refine lv_bipush (v := 40) hx hb dX3_renew_13 (by decide) ?_
  refine lv_icmp_ge (tgt := 31) hx hb dX3_renew_15 (by decide) (fun c_3 => absurd c_3 (by decide)) (fun c_3 => ?_)
  refine lv_aload_n hx hb dX3_renew_18 rfl (lv_at hl 1 rfl) ?_
  refine va_get (D := D) (ci := 2) (v := .ref q_row) (C := RX3) (T := TX3) (N := 3) hx hb hts hiX3 hown hK hP 0 rfl rfl 0 (by decide) fl9 (fun _ h9 => h9) rfl dX3_renew_19 ?_
  refine lv_iload_n hx hb dX3_renew_22 rfl (lv_at hl 0 rfl) ?_
  refine lv_iconst (v := 0) hx hb dX3_renew_23 (by decide) ?_
  refine va_iast hx hb hK hP hD hS 1 0 rfl rfl (hs_in (by decide)) dX3_renew_24 (fun H locs hP hD hS => ?_)
  have hE : upd hsz 2 0 = hsz := hs_uz 2
  have hP : va_P D vwCl [(q, .inr (2, [.ref q_row, .int la, .int n])), (q_row, .inl (k 0, 40, .inl (upd hsz 2 0)))] H := hP
  have hD : va_D A [(q, .inr (2, [.ref q_row, .int la, .int n])), (q_row, .inl (k 0, 40, .inl (upd hsz 2 0)))] := hD
  rw [hE] at hP hD
  refine lv_iinc (v := 3) (lv' := [(3, .int 3), (0, .ref q), (1, .int la), (2, .int n)]) hx hb dX3_renew_25 hl (k := 0) rfl (by decide) (by decide) rfl (fun ls hl => ?_)
  refine lv_goto (tgt := 12) hx hb dX3_renew_28 (by decide) ?_
  refine lv_iload_n hx hb dX3_renew_12 rfl (lv_at hl 0 rfl) ?_
  refine lv_bipush (v := 40) hx hb dX3_renew_13 (by decide) ?_
  refine lv_icmp_ge (tgt := 31) hx hb dX3_renew_15 (by decide) (fun c_4 => absurd c_4 (by decide)) (fun c_4 => ?_)
  refine lv_aload_n hx hb dX3_renew_18 rfl (lv_at hl 1 rfl) ?_
  refine va_get (D := D) (ci := 2) (v := .ref q_row) (C := RX3) (T := TX3) (N := 3) hx hb hts hiX3 hown hK hP 0 rfl rfl 0 (by decide) fl9 (fun _ h9 => h9) rfl dX3_renew_19 ?_
  refine lv_iload_n hx hb dX3_renew_22 rfl (lv_at hl 0 rfl) ?_
  refine lv_iconst (v := 0) hx hb dX3_renew_23 (by decide) ?_
  refine va_iast hx hb hK hP hD hS 1 0 rfl rfl (hs_in (by decide)) dX3_renew_24 (fun H locs hP hD hS => ?_)
  have hE : upd hsz 3 0 = hsz := hs_uz 3
  have hP : va_P D vwCl [(q, .inr (2, [.ref q_row, .int la, .int n])), (q_row, .inl (k 0, 40, .inl (upd hsz 3 0)))] H := hP
  have hD : va_D A [(q, .inr (2, [.ref q_row, .int la, .int n])), (q_row, .inl (k 0, 40, .inl (upd hsz 3 0)))] := hD
  rw [hE] at hP hD
  refine lv_iinc (v := 4) (lv' := [(3, .int 4), (0, .ref q), (1, .int la), (2, .int n)]) hx hb dX3_renew_25 hl (k := 0) rfl (by decide) (by decide) rfl (fun ls hl => ?_)
  refine lv_goto (tgt := 12) hx hb dX3_renew_28 (by decide) ?_
  refine lv_iload_n hx hb dX3_renew_12 rfl (lv_at hl 0 rfl) ?_
  refine lv_bipush (v := 40) hx hb dX3_renew_13 (by decide) ?_
  refine lv_icmp_ge (tgt := 31) hx hb dX3_renew_15 (by decide) (fun c_5 => absurd c_5 (by decide)) (fun c_5 => ?_)
  refine lv_aload_n hx hb dX3_renew_18 rfl (lv_at hl 1 rfl) ?_
  refine va_get (D := D) (ci := 2) (v := .ref q_row) (C := RX3) (T := TX3) (N := 3) hx hb hts hiX3 hown hK hP 0 rfl rfl 0 (by decide) fl9 (fun _ h9 => h9) rfl dX3_renew_19 ?_
  refine lv_iload_n hx hb dX3_renew_22 rfl (lv_at hl 0 rfl) ?_
  refine lv_iconst (v := 0) hx hb dX3_renew_23 (by decide) ?_
  refine va_iast hx hb hK hP hD hS 1 0 rfl rfl (hs_in (by decide)) dX3_renew_24 (fun H locs hP hD hS => ?_)
  have hE : upd hsz 4 0 = hsz := hs_uz 4
  have hP : va_P D vwCl [(q, .inr (2, [.ref q_row, .int la, .int n])), (q_row, .inl (k 0, 40, .inl (upd hsz 4 0)))] H := hP
  have hD : va_D A [(q, .inr (2, [.ref q_row, .int la, .int n])), (q_row, .inl (k 0, 40, .inl (upd hsz 4 0)))] := hD
  rw [hE] at hP hD
  refine lv_iinc (v := 5) (lv' := [(3, .int 5), (0, .ref q), (1, .int la), (2, .int n)]) hx hb dX3_renew_25 hl (k := 0) rfl (by decide) (by decide) rfl (fun ls hl => ?_)
  refine lv_goto (tgt := 12) hx hb dX3_renew_28 (by decide) ?_
  refine lv_iload_n hx hb dX3_renew_12 rfl (lv_at hl 0 rfl) ?_
  refine lv_bipush (v := 40) hx hb dX3_renew_13 (by decide) ?_
  refine lv_icmp_ge (tgt := 31) hx hb dX3_renew_15 (by decide) (fun c_6 => absurd c_6 (by decide)) (fun c_6 => ?_)
  refine lv_aload_n hx hb dX3_renew_18 rfl (lv_at hl 1 rfl) ?_
  refine va_get (D := D) (ci := 2) (v := .ref q_row) (C := RX3) (T := TX3) (N := 3) hx hb hts hiX3 hown hK hP 0 rfl rfl 0 (by decide) fl9 (fun _ h9 => h9) rfl dX3_renew_19 ?_
  refine lv_iload_n hx hb dX3_renew_22 rfl (lv_at hl 0 rfl) ?_
  refine lv_iconst (v := 0) hx hb dX3_renew_23 (by decide) ?_
  refine va_iast hx hb hK hP hD hS 1 0 rfl rfl (hs_in (by decide)) dX3_renew_24 (fun H locs hP hD hS => ?_)
  have hE : upd hsz 5 0 = hsz := hs_uz 5
  have hP : va_P D vwCl [(q, .inr (2, [.ref q_row, .int la, .int n])), (q_row, .inl (k 0, 40, .inl (upd hsz 5 0)))] H := hP
  have hD : va_D A [(q, .inr (2, [.ref q_row, .int la, .int n])), (q_row, .inl (k 0, 40, .inl (upd hsz 5 0)))] := hD
  rw [hE] at hP hD
  refine lv_iinc (v := 6) (lv' := [(3, .int 6), (0, .ref q), (1, .int la), (2, .int n)]) hx hb dX3_renew_25 hl (k := 0) rfl (by decide) (by decide) rfl (fun ls hl => ?_)
  refine lv_goto (tgt := 12) hx hb dX3_renew_28 (by decide) ?_
  refine lv_iload_n hx hb dX3_renew_12 rfl (lv_at hl 0 rfl) ?_
  refine lv_bipush (v := 40) hx hb dX3_renew_13 (by decide) ?_
  refine lv_icmp_ge (tgt := 31) hx hb dX3_renew_15 (by decide) (fun c_7 => absurd c_7 (by decide)) (fun c_7 => ?_)
  refine lv_aload_n hx hb dX3_renew_18 rfl (lv_at hl 1 rfl) ?_
  refine va_get (D := D) (ci := 2) (v := .ref q_row) (C := RX3) (T := TX3) (N := 3) hx hb hts hiX3 hown hK hP 0 rfl rfl 0 (by decide) fl9 (fun _ h9 => h9) rfl dX3_renew_19 ?_
  refine lv_iload_n hx hb dX3_renew_22 rfl (lv_at hl 0 rfl) ?_
  refine lv_iconst (v := 0) hx hb dX3_renew_23 (by decide) ?_
  refine va_iast hx hb hK hP hD hS 1 0 rfl rfl (hs_in (by decide)) dX3_renew_24 (fun H locs hP hD hS => ?_)
  have hE : upd hsz 6 0 = hsz := hs_uz 6
  have hP : va_P D vwCl [(q, .inr (2, [.ref q_row, .int la, .int n])), (q_row, .inl (k 0, 40, .inl (upd hsz 6 0)))] H := hP
  have hD : va_D A [(q, .inr (2, [.ref q_row, .int la, .int n])), (q_row, .inl (k 0, 40, .inl (upd hsz 6 0)))] := hD
  rw [hE] at hP hD
  refine lv_iinc (v := 7) (lv' := [(3, .int 7), (0, .ref q), (1, .int la), (2, .int n)]) hx hb dX3_renew_25 hl (k := 0) rfl (by decide) (by decide) rfl (fun ls hl => ?_)
  refine lv_goto (tgt := 12) hx hb dX3_renew_28 (by decide) ?_
  refine lv_iload_n hx hb dX3_renew_12 rfl (lv_at hl 0 rfl) ?_
  refine lv_bipush (v := 40) hx hb dX3_renew_13 (by decide) ?_
  refine lv_icmp_ge (tgt := 31) hx hb dX3_renew_15 (by decide) (fun c_8 => absurd c_8 (by decide)) (fun c_8 => ?_)
  refine lv_aload_n hx hb dX3_renew_18 rfl (lv_at hl 1 rfl) ?_
  refine va_get (D := D) (ci := 2) (v := .ref q_row) (C := RX3) (T := TX3) (N := 3) hx hb hts hiX3 hown hK hP 0 rfl rfl 0 (by decide) fl9 (fun _ h9 => h9) rfl dX3_renew_19 ?_
  refine lv_iload_n hx hb dX3_renew_22 rfl (lv_at hl 0 rfl) ?_
  refine lv_iconst (v := 0) hx hb dX3_renew_23 (by decide) ?_
  refine va_iast hx hb hK hP hD hS 1 0 rfl rfl (hs_in (by decide)) dX3_renew_24 (fun H locs hP hD hS => ?_)
  have hE : upd hsz 7 0 = hsz := hs_uz 7
  have hP : va_P D vwCl [(q, .inr (2, [.ref q_row, .int la, .int n])), (q_row, .inl (k 0, 40, .inl (upd hsz 7 0)))] H := hP
  have hD : va_D A [(q, .inr (2, [.ref q_row, .int la, .int n])), (q_row, .inl (k 0, 40, .inl (upd hsz 7 0)))] := hD
  rw [hE] at hP hD
  refine lv_iinc (v := 8) (lv' := [(3, .int 8), (0, .ref q), (1, .int la), (2, .int n)]) hx hb dX3_renew_25 hl (k := 0) rfl (by decide) (by decide) rfl (fun ls hl => ?_)
  refine lv_goto (tgt := 12) hx hb dX3_renew_28 (by decide) ?_
  refine lv_iload_n hx hb dX3_renew_12 rfl (lv_at hl 0 rfl) ?_
  refine lv_bipush (v := 40) hx hb dX3_renew_13 (by decide) ?_
  refine lv_icmp_ge (tgt := 31) hx hb dX3_renew_15 (by decide) (fun c_9 => absurd c_9 (by decide)) (fun c_9 => ?_)
  refine lv_aload_n hx hb dX3_renew_18 rfl (lv_at hl 1 rfl) ?_
  refine va_get (D := D) (ci := 2) (v := .ref q_row) (C := RX3) (T := TX3) (N := 3) hx hb hts hiX3 hown hK hP 0 rfl rfl 0 (by decide) fl9 (fun _ h9 => h9) rfl dX3_renew_19 ?_
  refine lv_iload_n hx hb dX3_renew_22 rfl (lv_at hl 0 rfl) ?_
  refine lv_iconst (v := 0) hx hb dX3_renew_23 (by decide) ?_
  refine va_iast hx hb hK hP hD hS 1 0 rfl rfl (hs_in (by decide)) dX3_renew_24 (fun H locs hP hD hS => ?_)
  have hE : upd hsz 8 0 = hsz := hs_uz 8
  have hP : va_P D vwCl [(q, .inr (2, [.ref q_row, .int la, .int n])), (q_row, .inl (k 0, 40, .inl (upd hsz 8 0)))] H := hP
  have hD : va_D A [(q, .inr (2, [.ref q_row, .int la, .int n])), (q_row, .inl (k 0, 40, .inl (upd hsz 8 0)))] := hD
  rw [hE] at hP hD
  refine lv_iinc (v := 9) (lv' := [(3, .int 9), (0, .ref q), (1, .int la), (2, .int n)]) hx hb dX3_renew_25 hl (k := 0) rfl (by decide) (by decide) rfl (fun ls hl => ?_)
  refine lv_goto (tgt := 12) hx hb dX3_renew_28 (by decide) ?_
  refine lv_iload_n hx hb dX3_renew_12 rfl (lv_at hl 0 rfl) ?_
  refine lv_bipush (v := 40) hx hb dX3_renew_13 (by decide) ?_
  refine lv_icmp_ge (tgt := 31) hx hb dX3_renew_15 (by decide) (fun c_10 => absurd c_10 (by decide)) (fun c_10 => ?_)
  refine lv_aload_n hx hb dX3_renew_18 rfl (lv_at hl 1 rfl) ?_
  refine va_get (D := D) (ci := 2) (v := .ref q_row) (C := RX3) (T := TX3) (N := 3) hx hb hts hiX3 hown hK hP 0 rfl rfl 0 (by decide) fl9 (fun _ h9 => h9) rfl dX3_renew_19 ?_
  refine lv_iload_n hx hb dX3_renew_22 rfl (lv_at hl 0 rfl) ?_
  refine lv_iconst (v := 0) hx hb dX3_renew_23 (by decide) ?_
  refine va_iast hx hb hK hP hD hS 1 0 rfl rfl (hs_in (by decide)) dX3_renew_24 (fun H locs hP hD hS => ?_)
  have hE : upd hsz 9 0 = hsz := hs_uz 9
  have hP : va_P D vwCl [(q, .inr (2, [.ref q_row, .int la, .int n])), (q_row, .inl (k 0, 40, .inl (upd hsz 9 0)))] H := hP
  have hD : va_D A [(q, .inr (2, [.ref q_row, .int la, .int n])), (q_row, .inl (k 0, 40, .inl (upd hsz 9 0)))] := hD
  rw [hE] at hP hD
  refine lv_iinc (v := 10) (lv' := [(3, .int 10), (0, .ref q), (1, .int la), (2, .int n)]) hx hb dX3_renew_25 hl (k := 0) rfl (by decide) (by decide) rfl (fun ls hl => ?_)
  refine lv_goto (tgt := 12) hx hb dX3_renew_28 (by decide) ?_
  refine lv_iload_n hx hb dX3_renew_12 rfl (lv_at hl 0 rfl) ?_
  refine lv_bipush (v := 40) hx hb dX3_renew_13 (by decide) ?_
  refine lv_icmp_ge (tgt := 31) hx hb dX3_renew_15 (by decide) (fun c_11 => absurd c_11 (by decide)) (fun c_11 => ?_)
  refine lv_aload_n hx hb dX3_renew_18 rfl (lv_at hl 1 rfl) ?_
  refine va_get (D := D) (ci := 2) (v := .ref q_row) (C := RX3) (T := TX3) (N := 3) hx hb hts hiX3 hown hK hP 0 rfl rfl 0 (by decide) fl9 (fun _ h9 => h9) rfl dX3_renew_19 ?_
  refine lv_iload_n hx hb dX3_renew_22 rfl (lv_at hl 0 rfl) ?_
  refine lv_iconst (v := 0) hx hb dX3_renew_23 (by decide) ?_
  refine va_iast hx hb hK hP hD hS 1 0 rfl rfl (hs_in (by decide)) dX3_renew_24 (fun H locs hP hD hS => ?_)
  have hE : upd hsz 10 0 = hsz := hs_uz 10
  have hP : va_P D vwCl [(q, .inr (2, [.ref q_row, .int la, .int n])), (q_row, .inl (k 0, 40, .inl (upd hsz 10 0)))] H := hP
  have hD : va_D A [(q, .inr (2, [.ref q_row, .int la, .int n])), (q_row, .inl (k 0, 40, .inl (upd hsz 10 0)))] := hD
  rw [hE] at hP hD
  refine lv_iinc (v := 11) (lv' := [(3, .int 11), (0, .ref q), (1, .int la), (2, .int n)]) hx hb dX3_renew_25 hl (k := 0) rfl (by decide) (by decide) rfl (fun ls hl => ?_)
  refine lv_goto (tgt := 12) hx hb dX3_renew_28 (by decide) ?_
  refine lv_iload_n hx hb dX3_renew_12 rfl (lv_at hl 0 rfl) ?_
  refine lv_bipush (v := 40) hx hb dX3_renew_13 (by decide) ?_
  refine lv_icmp_ge (tgt := 31) hx hb dX3_renew_15 (by decide) (fun c_12 => absurd c_12 (by decide)) (fun c_12 => ?_)
  refine lv_aload_n hx hb dX3_renew_18 rfl (lv_at hl 1 rfl) ?_
  refine va_get (D := D) (ci := 2) (v := .ref q_row) (C := RX3) (T := TX3) (N := 3) hx hb hts hiX3 hown hK hP 0 rfl rfl 0 (by decide) fl9 (fun _ h9 => h9) rfl dX3_renew_19 ?_
  refine lv_iload_n hx hb dX3_renew_22 rfl (lv_at hl 0 rfl) ?_
  refine lv_iconst (v := 0) hx hb dX3_renew_23 (by decide) ?_
  refine va_iast hx hb hK hP hD hS 1 0 rfl rfl (hs_in (by decide)) dX3_renew_24 (fun H locs hP hD hS => ?_)
  have hE : upd hsz 11 0 = hsz := hs_uz 11
  have hP : va_P D vwCl [(q, .inr (2, [.ref q_row, .int la, .int n])), (q_row, .inl (k 0, 40, .inl (upd hsz 11 0)))] H := hP
  have hD : va_D A [(q, .inr (2, [.ref q_row, .int la, .int n])), (q_row, .inl (k 0, 40, .inl (upd hsz 11 0)))] := hD
  rw [hE] at hP hD
  refine lv_iinc (v := 12) (lv' := [(3, .int 12), (0, .ref q), (1, .int la), (2, .int n)]) hx hb dX3_renew_25 hl (k := 0) rfl (by decide) (by decide) rfl (fun ls hl => ?_)
  refine lv_goto (tgt := 12) hx hb dX3_renew_28 (by decide) ?_
  refine lv_iload_n hx hb dX3_renew_12 rfl (lv_at hl 0 rfl) ?_
  refine lv_bipush (v := 40) hx hb dX3_renew_13 (by decide) ?_
  refine lv_icmp_ge (tgt := 31) hx hb dX3_renew_15 (by decide) (fun c_13 => absurd c_13 (by decide)) (fun c_13 => ?_)
  refine lv_aload_n hx hb dX3_renew_18 rfl (lv_at hl 1 rfl) ?_
  refine va_get (D := D) (ci := 2) (v := .ref q_row) (C := RX3) (T := TX3) (N := 3) hx hb hts hiX3 hown hK hP 0 rfl rfl 0 (by decide) fl9 (fun _ h9 => h9) rfl dX3_renew_19 ?_
  refine lv_iload_n hx hb dX3_renew_22 rfl (lv_at hl 0 rfl) ?_
  refine lv_iconst (v := 0) hx hb dX3_renew_23 (by decide) ?_
  refine va_iast hx hb hK hP hD hS 1 0 rfl rfl (hs_in (by decide)) dX3_renew_24 (fun H locs hP hD hS => ?_)
  have hE : upd hsz 12 0 = hsz := hs_uz 12
  have hP : va_P D vwCl [(q, .inr (2, [.ref q_row, .int la, .int n])), (q_row, .inl (k 0, 40, .inl (upd hsz 12 0)))] H := hP
  have hD : va_D A [(q, .inr (2, [.ref q_row, .int la, .int n])), (q_row, .inl (k 0, 40, .inl (upd hsz 12 0)))] := hD
  rw [hE] at hP hD
  refine lv_iinc (v := 13) (lv' := [(3, .int 13), (0, .ref q), (1, .int la), (2, .int n)]) hx hb dX3_renew_25 hl (k := 0) rfl (by decide) (by decide) rfl (fun ls hl => ?_)
  refine lv_goto (tgt := 12) hx hb dX3_renew_28 (by decide) ?_
  refine lv_iload_n hx hb dX3_renew_12 rfl (lv_at hl 0 rfl) ?_
  refine lv_bipush (v := 40) hx hb dX3_renew_13 (by decide) ?_
  refine lv_icmp_ge (tgt := 31) hx hb dX3_renew_15 (by decide) (fun c_14 => absurd c_14 (by decide)) (fun c_14 => ?_)
  refine lv_aload_n hx hb dX3_renew_18 rfl (lv_at hl 1 rfl) ?_
  refine va_get (D := D) (ci := 2) (v := .ref q_row) (C := RX3) (T := TX3) (N := 3) hx hb hts hiX3 hown hK hP 0 rfl rfl 0 (by decide) fl9 (fun _ h9 => h9) rfl dX3_renew_19 ?_
  refine lv_iload_n hx hb dX3_renew_22 rfl (lv_at hl 0 rfl) ?_
  refine lv_iconst (v := 0) hx hb dX3_renew_23 (by decide) ?_
  refine va_iast hx hb hK hP hD hS 1 0 rfl rfl (hs_in (by decide)) dX3_renew_24 (fun H locs hP hD hS => ?_)
  have hE : upd hsz 13 0 = hsz := hs_uz 13
  have hP : va_P D vwCl [(q, .inr (2, [.ref q_row, .int la, .int n])), (q_row, .inl (k 0, 40, .inl (upd hsz 13 0)))] H := hP
  have hD : va_D A [(q, .inr (2, [.ref q_row, .int la, .int n])), (q_row, .inl (k 0, 40, .inl (upd hsz 13 0)))] := hD
  rw [hE] at hP hD
  refine lv_iinc (v := 14) (lv' := [(3, .int 14), (0, .ref q), (1, .int la), (2, .int n)]) hx hb dX3_renew_25 hl (k := 0) rfl (by decide) (by decide) rfl (fun ls hl => ?_)
  refine lv_goto (tgt := 12) hx hb dX3_renew_28 (by decide) ?_
  refine lv_iload_n hx hb dX3_renew_12 rfl (lv_at hl 0 rfl) ?_
  refine lv_bipush (v := 40) hx hb dX3_renew_13 (by decide) ?_
  refine lv_icmp_ge (tgt := 31) hx hb dX3_renew_15 (by decide) (fun c_15 => absurd c_15 (by decide)) (fun c_15 => ?_)
  refine lv_aload_n hx hb dX3_renew_18 rfl (lv_at hl 1 rfl) ?_
  refine va_get (D := D) (ci := 2) (v := .ref q_row) (C := RX3) (T := TX3) (N := 3) hx hb hts hiX3 hown hK hP 0 rfl rfl 0 (by decide) fl9 (fun _ h9 => h9) rfl dX3_renew_19 ?_
  refine lv_iload_n hx hb dX3_renew_22 rfl (lv_at hl 0 rfl) ?_
  refine lv_iconst (v := 0) hx hb dX3_renew_23 (by decide) ?_
  refine va_iast hx hb hK hP hD hS 1 0 rfl rfl (hs_in (by decide)) dX3_renew_24 (fun H locs hP hD hS => ?_)
  have hE : upd hsz 14 0 = hsz := hs_uz 14
  have hP : va_P D vwCl [(q, .inr (2, [.ref q_row, .int la, .int n])), (q_row, .inl (k 0, 40, .inl (upd hsz 14 0)))] H := hP
  have hD : va_D A [(q, .inr (2, [.ref q_row, .int la, .int n])), (q_row, .inl (k 0, 40, .inl (upd hsz 14 0)))] := hD
  rw [hE] at hP hD
  refine lv_iinc (v := 15) (lv' := [(3, .int 15), (0, .ref q), (1, .int la), (2, .int n)]) hx hb dX3_renew_25 hl (k := 0) rfl (by decide) (by decide) rfl (fun ls hl => ?_)
  refine lv_goto (tgt := 12) hx hb dX3_renew_28 (by decide) ?_
  refine lv_iload_n hx hb dX3_renew_12 rfl (lv_at hl 0 rfl) ?_
  refine lv_bipush (v := 40) hx hb dX3_renew_13 (by decide) ?_
  refine lv_icmp_ge (tgt := 31) hx hb dX3_renew_15 (by decide) (fun c_16 => absurd c_16 (by decide)) (fun c_16 => ?_)
  refine lv_aload_n hx hb dX3_renew_18 rfl (lv_at hl 1 rfl) ?_
  refine va_get (D := D) (ci := 2) (v := .ref q_row) (C := RX3) (T := TX3) (N := 3) hx hb hts hiX3 hown hK hP 0 rfl rfl 0 (by decide) fl9 (fun _ h9 => h9) rfl dX3_renew_19 ?_
  refine lv_iload_n hx hb dX3_renew_22 rfl (lv_at hl 0 rfl) ?_
  refine lv_iconst (v := 0) hx hb dX3_renew_23 (by decide) ?_
  refine va_iast hx hb hK hP hD hS 1 0 rfl rfl (hs_in (by decide)) dX3_renew_24 (fun H locs hP hD hS => ?_)
  have hE : upd hsz 15 0 = hsz := hs_uz 15
  have hP : va_P D vwCl [(q, .inr (2, [.ref q_row, .int la, .int n])), (q_row, .inl (k 0, 40, .inl (upd hsz 15 0)))] H := hP
  have hD : va_D A [(q, .inr (2, [.ref q_row, .int la, .int n])), (q_row, .inl (k 0, 40, .inl (upd hsz 15 0)))] := hD
  rw [hE] at hP hD
  refine lv_iinc (v := 16) (lv' := [(3, .int 16), (0, .ref q), (1, .int la), (2, .int n)]) hx hb dX3_renew_25 hl (k := 0) rfl (by decide) (by decide) rfl (fun ls hl => ?_)
  refine lv_goto (tgt := 12) hx hb dX3_renew_28 (by decide) ?_
  refine lv_iload_n hx hb dX3_renew_12 rfl (lv_at hl 0 rfl) ?_
  refine lv_bipush (v := 40) hx hb dX3_renew_13 (by decide) ?_
  refine lv_icmp_ge (tgt := 31) hx hb dX3_renew_15 (by decide) (fun c_17 => absurd c_17 (by decide)) (fun c_17 => ?_)
  refine lv_aload_n hx hb dX3_renew_18 rfl (lv_at hl 1 rfl) ?_
  refine va_get (D := D) (ci := 2) (v := .ref q_row) (C := RX3) (T := TX3) (N := 3) hx hb hts hiX3 hown hK hP 0 rfl rfl 0 (by decide) fl9 (fun _ h9 => h9) rfl dX3_renew_19 ?_
  refine lv_iload_n hx hb dX3_renew_22 rfl (lv_at hl 0 rfl) ?_
  refine lv_iconst (v := 0) hx hb dX3_renew_23 (by decide) ?_
  refine va_iast hx hb hK hP hD hS 1 0 rfl rfl (hs_in (by decide)) dX3_renew_24 (fun H locs hP hD hS => ?_)
  have hE : upd hsz 16 0 = hsz := hs_uz 16
  have hP : va_P D vwCl [(q, .inr (2, [.ref q_row, .int la, .int n])), (q_row, .inl (k 0, 40, .inl (upd hsz 16 0)))] H := hP
  have hD : va_D A [(q, .inr (2, [.ref q_row, .int la, .int n])), (q_row, .inl (k 0, 40, .inl (upd hsz 16 0)))] := hD
  rw [hE] at hP hD
  refine lv_iinc (v := 17) (lv' := [(3, .int 17), (0, .ref q), (1, .int la), (2, .int n)]) hx hb dX3_renew_25 hl (k := 0) rfl (by decide) (by decide) rfl (fun ls hl => ?_)
  refine lv_goto (tgt := 12) hx hb dX3_renew_28 (by decide) ?_
  refine lv_iload_n hx hb dX3_renew_12 rfl (lv_at hl 0 rfl) ?_
  refine lv_bipush (v := 40) hx hb dX3_renew_13 (by decide) ?_
  refine lv_icmp_ge (tgt := 31) hx hb dX3_renew_15 (by decide) (fun c_18 => absurd c_18 (by decide)) (fun c_18 => ?_)
  refine lv_aload_n hx hb dX3_renew_18 rfl (lv_at hl 1 rfl) ?_
  refine va_get (D := D) (ci := 2) (v := .ref q_row) (C := RX3) (T := TX3) (N := 3) hx hb hts hiX3 hown hK hP 0 rfl rfl 0 (by decide) fl9 (fun _ h9 => h9) rfl dX3_renew_19 ?_
  refine lv_iload_n hx hb dX3_renew_22 rfl (lv_at hl 0 rfl) ?_
  refine lv_iconst (v := 0) hx hb dX3_renew_23 (by decide) ?_
  refine va_iast hx hb hK hP hD hS 1 0 rfl rfl (hs_in (by decide)) dX3_renew_24 (fun H locs hP hD hS => ?_)
  have hE : upd hsz 17 0 = hsz := hs_uz 17
  have hP : va_P D vwCl [(q, .inr (2, [.ref q_row, .int la, .int n])), (q_row, .inl (k 0, 40, .inl (upd hsz 17 0)))] H := hP
  have hD : va_D A [(q, .inr (2, [.ref q_row, .int la, .int n])), (q_row, .inl (k 0, 40, .inl (upd hsz 17 0)))] := hD
  rw [hE] at hP hD
  refine lv_iinc (v := 18) (lv' := [(3, .int 18), (0, .ref q), (1, .int la), (2, .int n)]) hx hb dX3_renew_25 hl (k := 0) rfl (by decide) (by decide) rfl (fun ls hl => ?_)
  refine lv_goto (tgt := 12) hx hb dX3_renew_28 (by decide) ?_
  refine lv_iload_n hx hb dX3_renew_12 rfl (lv_at hl 0 rfl) ?_
  refine lv_bipush (v := 40) hx hb dX3_renew_13 (by decide) ?_
  refine lv_icmp_ge (tgt := 31) hx hb dX3_renew_15 (by decide) (fun c_19 => absurd c_19 (by decide)) (fun c_19 => ?_)
  refine lv_aload_n hx hb dX3_renew_18 rfl (lv_at hl 1 rfl) ?_
  refine va_get (D := D) (ci := 2) (v := .ref q_row) (C := RX3) (T := TX3) (N := 3) hx hb hts hiX3 hown hK hP 0 rfl rfl 0 (by decide) fl9 (fun _ h9 => h9) rfl dX3_renew_19 ?_
  refine lv_iload_n hx hb dX3_renew_22 rfl (lv_at hl 0 rfl) ?_
  refine lv_iconst (v := 0) hx hb dX3_renew_23 (by decide) ?_
  refine va_iast hx hb hK hP hD hS 1 0 rfl rfl (hs_in (by decide)) dX3_renew_24 (fun H locs hP hD hS => ?_)
  have hE : upd hsz 18 0 = hsz := hs_uz 18
  have hP : va_P D vwCl [(q, .inr (2, [.ref q_row, .int la, .int n])), (q_row, .inl (k 0, 40, .inl (upd hsz 18 0)))] H := hP
  have hD : va_D A [(q, .inr (2, [.ref q_row, .int la, .int n])), (q_row, .inl (k 0, 40, .inl (upd hsz 18 0)))] := hD
  rw [hE] at hP hD
  refine lv_iinc (v := 19) (lv' := [(3, .int 19), (0, .ref q), (1, .int la), (2, .int n)]) hx hb dX3_renew_25 hl (k := 0) rfl (by decide) (by decide) rfl (fun ls hl => ?_)
  refine lv_goto (tgt := 12) hx hb dX3_renew_28 (by decide) ?_
  refine lv_iload_n hx hb dX3_renew_12 rfl (lv_at hl 0 rfl) ?_
  refine lv_bipush (v := 40) hx hb dX3_renew_13 (by decide) ?_
  refine lv_icmp_ge (tgt := 31) hx hb dX3_renew_15 (by decide) (fun c_20 => absurd c_20 (by decide)) (fun c_20 => ?_)
  refine lv_aload_n hx hb dX3_renew_18 rfl (lv_at hl 1 rfl) ?_
  refine va_get (D := D) (ci := 2) (v := .ref q_row) (C := RX3) (T := TX3) (N := 3) hx hb hts hiX3 hown hK hP 0 rfl rfl 0 (by decide) fl9 (fun _ h9 => h9) rfl dX3_renew_19 ?_
  refine lv_iload_n hx hb dX3_renew_22 rfl (lv_at hl 0 rfl) ?_
  refine lv_iconst (v := 0) hx hb dX3_renew_23 (by decide) ?_
  refine va_iast hx hb hK hP hD hS 1 0 rfl rfl (hs_in (by decide)) dX3_renew_24 (fun H locs hP hD hS => ?_)
  have hE : upd hsz 19 0 = hsz := hs_uz 19
  have hP : va_P D vwCl [(q, .inr (2, [.ref q_row, .int la, .int n])), (q_row, .inl (k 0, 40, .inl (upd hsz 19 0)))] H := hP
  have hD : va_D A [(q, .inr (2, [.ref q_row, .int la, .int n])), (q_row, .inl (k 0, 40, .inl (upd hsz 19 0)))] := hD
  rw [hE] at hP hD
  refine lv_iinc (v := 20) (lv' := [(3, .int 20), (0, .ref q), (1, .int la), (2, .int n)]) hx hb dX3_renew_25 hl (k := 0) rfl (by decide) (by decide) rfl (fun ls hl => ?_)
  refine lv_goto (tgt := 12) hx hb dX3_renew_28 (by decide) ?_
  refine lv_iload_n hx hb dX3_renew_12 rfl (lv_at hl 0 rfl) ?_
  refine lv_bipush (v := 40) hx hb dX3_renew_13 (by decide) ?_
  refine lv_icmp_ge (tgt := 31) hx hb dX3_renew_15 (by decide) (fun c_21 => absurd c_21 (by decide)) (fun c_21 => ?_)
  refine lv_aload_n hx hb dX3_renew_18 rfl (lv_at hl 1 rfl) ?_
  refine va_get (D := D) (ci := 2) (v := .ref q_row) (C := RX3) (T := TX3) (N := 3) hx hb hts hiX3 hown hK hP 0 rfl rfl 0 (by decide) fl9 (fun _ h9 => h9) rfl dX3_renew_19 ?_
  refine lv_iload_n hx hb dX3_renew_22 rfl (lv_at hl 0 rfl) ?_
  refine lv_iconst (v := 0) hx hb dX3_renew_23 (by decide) ?_
  refine va_iast hx hb hK hP hD hS 1 0 rfl rfl (hs_in (by decide)) dX3_renew_24 (fun H locs hP hD hS => ?_)
  have hE : upd hsz 20 0 = hsz := hs_uz 20
  have hP : va_P D vwCl [(q, .inr (2, [.ref q_row, .int la, .int n])), (q_row, .inl (k 0, 40, .inl (upd hsz 20 0)))] H := hP
  have hD : va_D A [(q, .inr (2, [.ref q_row, .int la, .int n])), (q_row, .inl (k 0, 40, .inl (upd hsz 20 0)))] := hD
  rw [hE] at hP hD
  refine lv_iinc (v := 21) (lv' := [(3, .int 21), (0, .ref q), (1, .int la), (2, .int n)]) hx hb dX3_renew_25 hl (k := 0) rfl (by decide) (by decide) rfl (fun ls hl => ?_)
  refine lv_goto (tgt := 12) hx hb dX3_renew_28 (by decide) ?_
  refine lv_iload_n hx hb dX3_renew_12 rfl (lv_at hl 0 rfl) ?_
  refine lv_bipush (v := 40) hx hb dX3_renew_13 (by decide) ?_
  refine lv_icmp_ge (tgt := 31) hx hb dX3_renew_15 (by decide) (fun c_22 => absurd c_22 (by decide)) (fun c_22 => ?_)
  refine lv_aload_n hx hb dX3_renew_18 rfl (lv_at hl 1 rfl) ?_
  refine va_get (D := D) (ci := 2) (v := .ref q_row) (C := RX3) (T := TX3) (N := 3) hx hb hts hiX3 hown hK hP 0 rfl rfl 0 (by decide) fl9 (fun _ h9 => h9) rfl dX3_renew_19 ?_
  refine lv_iload_n hx hb dX3_renew_22 rfl (lv_at hl 0 rfl) ?_
  refine lv_iconst (v := 0) hx hb dX3_renew_23 (by decide) ?_
  refine va_iast hx hb hK hP hD hS 1 0 rfl rfl (hs_in (by decide)) dX3_renew_24 (fun H locs hP hD hS => ?_)
  have hE : upd hsz 21 0 = hsz := hs_uz 21
  have hP : va_P D vwCl [(q, .inr (2, [.ref q_row, .int la, .int n])), (q_row, .inl (k 0, 40, .inl (upd hsz 21 0)))] H := hP
  have hD : va_D A [(q, .inr (2, [.ref q_row, .int la, .int n])), (q_row, .inl (k 0, 40, .inl (upd hsz 21 0)))] := hD
  rw [hE] at hP hD
  refine lv_iinc (v := 22) (lv' := [(3, .int 22), (0, .ref q), (1, .int la), (2, .int n)]) hx hb dX3_renew_25 hl (k := 0) rfl (by decide) (by decide) rfl (fun ls hl => ?_)
  refine lv_goto (tgt := 12) hx hb dX3_renew_28 (by decide) ?_
  refine lv_iload_n hx hb dX3_renew_12 rfl (lv_at hl 0 rfl) ?_
  refine lv_bipush (v := 40) hx hb dX3_renew_13 (by decide) ?_
  refine lv_icmp_ge (tgt := 31) hx hb dX3_renew_15 (by decide) (fun c_23 => absurd c_23 (by decide)) (fun c_23 => ?_)
  refine lv_aload_n hx hb dX3_renew_18 rfl (lv_at hl 1 rfl) ?_
  refine va_get (D := D) (ci := 2) (v := .ref q_row) (C := RX3) (T := TX3) (N := 3) hx hb hts hiX3 hown hK hP 0 rfl rfl 0 (by decide) fl9 (fun _ h9 => h9) rfl dX3_renew_19 ?_
  refine lv_iload_n hx hb dX3_renew_22 rfl (lv_at hl 0 rfl) ?_
  refine lv_iconst (v := 0) hx hb dX3_renew_23 (by decide) ?_
  refine va_iast hx hb hK hP hD hS 1 0 rfl rfl (hs_in (by decide)) dX3_renew_24 (fun H locs hP hD hS => ?_)
  have hE : upd hsz 22 0 = hsz := hs_uz 22
  have hP : va_P D vwCl [(q, .inr (2, [.ref q_row, .int la, .int n])), (q_row, .inl (k 0, 40, .inl (upd hsz 22 0)))] H := hP
  have hD : va_D A [(q, .inr (2, [.ref q_row, .int la, .int n])), (q_row, .inl (k 0, 40, .inl (upd hsz 22 0)))] := hD
  rw [hE] at hP hD
  refine lv_iinc (v := 23) (lv' := [(3, .int 23), (0, .ref q), (1, .int la), (2, .int n)]) hx hb dX3_renew_25 hl (k := 0) rfl (by decide) (by decide) rfl (fun ls hl => ?_)
  refine lv_goto (tgt := 12) hx hb dX3_renew_28 (by decide) ?_
  refine lv_iload_n hx hb dX3_renew_12 rfl (lv_at hl 0 rfl) ?_
  refine lv_bipush (v := 40) hx hb dX3_renew_13 (by decide) ?_
  refine lv_icmp_ge (tgt := 31) hx hb dX3_renew_15 (by decide) (fun c_24 => absurd c_24 (by decide)) (fun c_24 => ?_)
  refine lv_aload_n hx hb dX3_renew_18 rfl (lv_at hl 1 rfl) ?_
  refine va_get (D := D) (ci := 2) (v := .ref q_row) (C := RX3) (T := TX3) (N := 3) hx hb hts hiX3 hown hK hP 0 rfl rfl 0 (by decide) fl9 (fun _ h9 => h9) rfl dX3_renew_19 ?_
  refine lv_iload_n hx hb dX3_renew_22 rfl (lv_at hl 0 rfl) ?_
  refine lv_iconst (v := 0) hx hb dX3_renew_23 (by decide) ?_
  refine va_iast hx hb hK hP hD hS 1 0 rfl rfl (hs_in (by decide)) dX3_renew_24 (fun H locs hP hD hS => ?_)
  have hE : upd hsz 23 0 = hsz := hs_uz 23
  have hP : va_P D vwCl [(q, .inr (2, [.ref q_row, .int la, .int n])), (q_row, .inl (k 0, 40, .inl (upd hsz 23 0)))] H := hP
  have hD : va_D A [(q, .inr (2, [.ref q_row, .int la, .int n])), (q_row, .inl (k 0, 40, .inl (upd hsz 23 0)))] := hD
  rw [hE] at hP hD
  refine lv_iinc (v := 24) (lv' := [(3, .int 24), (0, .ref q), (1, .int la), (2, .int n)]) hx hb dX3_renew_25 hl (k := 0) rfl (by decide) (by decide) rfl (fun ls hl => ?_)
  refine lv_goto (tgt := 12) hx hb dX3_renew_28 (by decide) ?_
  refine lv_iload_n hx hb dX3_renew_12 rfl (lv_at hl 0 rfl) ?_
  refine lv_bipush (v := 40) hx hb dX3_renew_13 (by decide) ?_
  refine lv_icmp_ge (tgt := 31) hx hb dX3_renew_15 (by decide) (fun c_25 => absurd c_25 (by decide)) (fun c_25 => ?_)
  refine lv_aload_n hx hb dX3_renew_18 rfl (lv_at hl 1 rfl) ?_
  refine va_get (D := D) (ci := 2) (v := .ref q_row) (C := RX3) (T := TX3) (N := 3) hx hb hts hiX3 hown hK hP 0 rfl rfl 0 (by decide) fl9 (fun _ h9 => h9) rfl dX3_renew_19 ?_
  refine lv_iload_n hx hb dX3_renew_22 rfl (lv_at hl 0 rfl) ?_
  refine lv_iconst (v := 0) hx hb dX3_renew_23 (by decide) ?_
  refine va_iast hx hb hK hP hD hS 1 0 rfl rfl (hs_in (by decide)) dX3_renew_24 (fun H locs hP hD hS => ?_)
  have hE : upd hsz 24 0 = hsz := hs_uz 24
  have hP : va_P D vwCl [(q, .inr (2, [.ref q_row, .int la, .int n])), (q_row, .inl (k 0, 40, .inl (upd hsz 24 0)))] H := hP
  have hD : va_D A [(q, .inr (2, [.ref q_row, .int la, .int n])), (q_row, .inl (k 0, 40, .inl (upd hsz 24 0)))] := hD
  rw [hE] at hP hD
  refine lv_iinc (v := 25) (lv' := [(3, .int 25), (0, .ref q), (1, .int la), (2, .int n)]) hx hb dX3_renew_25 hl (k := 0) rfl (by decide) (by decide) rfl (fun ls hl => ?_)
  refine lv_goto (tgt := 12) hx hb dX3_renew_28 (by decide) ?_
  refine lv_iload_n hx hb dX3_renew_12 rfl (lv_at hl 0 rfl) ?_
  refine lv_bipush (v := 40) hx hb dX3_renew_13 (by decide) ?_
  refine lv_icmp_ge (tgt := 31) hx hb dX3_renew_15 (by decide) (fun c_26 => absurd c_26 (by decide)) (fun c_26 => ?_)
  refine lv_aload_n hx hb dX3_renew_18 rfl (lv_at hl 1 rfl) ?_
  refine va_get (D := D) (ci := 2) (v := .ref q_row) (C := RX3) (T := TX3) (N := 3) hx hb hts hiX3 hown hK hP 0 rfl rfl 0 (by decide) fl9 (fun _ h9 => h9) rfl dX3_renew_19 ?_
  refine lv_iload_n hx hb dX3_renew_22 rfl (lv_at hl 0 rfl) ?_
  refine lv_iconst (v := 0) hx hb dX3_renew_23 (by decide) ?_
  refine va_iast hx hb hK hP hD hS 1 0 rfl rfl (hs_in (by decide)) dX3_renew_24 (fun H locs hP hD hS => ?_)
  have hE : upd hsz 25 0 = hsz := hs_uz 25
  have hP : va_P D vwCl [(q, .inr (2, [.ref q_row, .int la, .int n])), (q_row, .inl (k 0, 40, .inl (upd hsz 25 0)))] H := hP
  have hD : va_D A [(q, .inr (2, [.ref q_row, .int la, .int n])), (q_row, .inl (k 0, 40, .inl (upd hsz 25 0)))] := hD
  rw [hE] at hP hD
  refine lv_iinc (v := 26) (lv' := [(3, .int 26), (0, .ref q), (1, .int la), (2, .int n)]) hx hb dX3_renew_25 hl (k := 0) rfl (by decide) (by decide) rfl (fun ls hl => ?_)
  refine lv_goto (tgt := 12) hx hb dX3_renew_28 (by decide) ?_
  refine lv_iload_n hx hb dX3_renew_12 rfl (lv_at hl 0 rfl) ?_
  refine lv_bipush (v := 40) hx hb dX3_renew_13 (by decide) ?_
  refine lv_icmp_ge (tgt := 31) hx hb dX3_renew_15 (by decide) (fun c_27 => absurd c_27 (by decide)) (fun c_27 => ?_)
  refine lv_aload_n hx hb dX3_renew_18 rfl (lv_at hl 1 rfl) ?_
  refine va_get (D := D) (ci := 2) (v := .ref q_row) (C := RX3) (T := TX3) (N := 3) hx hb hts hiX3 hown hK hP 0 rfl rfl 0 (by decide) fl9 (fun _ h9 => h9) rfl dX3_renew_19 ?_
  refine lv_iload_n hx hb dX3_renew_22 rfl (lv_at hl 0 rfl) ?_
  refine lv_iconst (v := 0) hx hb dX3_renew_23 (by decide) ?_
  refine va_iast hx hb hK hP hD hS 1 0 rfl rfl (hs_in (by decide)) dX3_renew_24 (fun H locs hP hD hS => ?_)
  have hE : upd hsz 26 0 = hsz := hs_uz 26
  have hP : va_P D vwCl [(q, .inr (2, [.ref q_row, .int la, .int n])), (q_row, .inl (k 0, 40, .inl (upd hsz 26 0)))] H := hP
  have hD : va_D A [(q, .inr (2, [.ref q_row, .int la, .int n])), (q_row, .inl (k 0, 40, .inl (upd hsz 26 0)))] := hD
  rw [hE] at hP hD
  refine lv_iinc (v := 27) (lv' := [(3, .int 27), (0, .ref q), (1, .int la), (2, .int n)]) hx hb dX3_renew_25 hl (k := 0) rfl (by decide) (by decide) rfl (fun ls hl => ?_)
  refine lv_goto (tgt := 12) hx hb dX3_renew_28 (by decide) ?_
  refine lv_iload_n hx hb dX3_renew_12 rfl (lv_at hl 0 rfl) ?_
  refine lv_bipush (v := 40) hx hb dX3_renew_13 (by decide) ?_
  refine lv_icmp_ge (tgt := 31) hx hb dX3_renew_15 (by decide) (fun c_28 => absurd c_28 (by decide)) (fun c_28 => ?_)
  refine lv_aload_n hx hb dX3_renew_18 rfl (lv_at hl 1 rfl) ?_
  refine va_get (D := D) (ci := 2) (v := .ref q_row) (C := RX3) (T := TX3) (N := 3) hx hb hts hiX3 hown hK hP 0 rfl rfl 0 (by decide) fl9 (fun _ h9 => h9) rfl dX3_renew_19 ?_
  refine lv_iload_n hx hb dX3_renew_22 rfl (lv_at hl 0 rfl) ?_
  refine lv_iconst (v := 0) hx hb dX3_renew_23 (by decide) ?_
  refine va_iast hx hb hK hP hD hS 1 0 rfl rfl (hs_in (by decide)) dX3_renew_24 (fun H locs hP hD hS => ?_)
  have hE : upd hsz 27 0 = hsz := hs_uz 27
  have hP : va_P D vwCl [(q, .inr (2, [.ref q_row, .int la, .int n])), (q_row, .inl (k 0, 40, .inl (upd hsz 27 0)))] H := hP
  have hD : va_D A [(q, .inr (2, [.ref q_row, .int la, .int n])), (q_row, .inl (k 0, 40, .inl (upd hsz 27 0)))] := hD
  rw [hE] at hP hD
  refine lv_iinc (v := 28) (lv' := [(3, .int 28), (0, .ref q), (1, .int la), (2, .int n)]) hx hb dX3_renew_25 hl (k := 0) rfl (by decide) (by decide) rfl (fun ls hl => ?_)
  refine lv_goto (tgt := 12) hx hb dX3_renew_28 (by decide) ?_
  refine lv_iload_n hx hb dX3_renew_12 rfl (lv_at hl 0 rfl) ?_
  refine lv_bipush (v := 40) hx hb dX3_renew_13 (by decide) ?_
  refine lv_icmp_ge (tgt := 31) hx hb dX3_renew_15 (by decide) (fun c_29 => absurd c_29 (by decide)) (fun c_29 => ?_)
  refine lv_aload_n hx hb dX3_renew_18 rfl (lv_at hl 1 rfl) ?_
  refine va_get (D := D) (ci := 2) (v := .ref q_row) (C := RX3) (T := TX3) (N := 3) hx hb hts hiX3 hown hK hP 0 rfl rfl 0 (by decide) fl9 (fun _ h9 => h9) rfl dX3_renew_19 ?_
  refine lv_iload_n hx hb dX3_renew_22 rfl (lv_at hl 0 rfl) ?_
  refine lv_iconst (v := 0) hx hb dX3_renew_23 (by decide) ?_
  refine va_iast hx hb hK hP hD hS 1 0 rfl rfl (hs_in (by decide)) dX3_renew_24 (fun H locs hP hD hS => ?_)
  have hE : upd hsz 28 0 = hsz := hs_uz 28
  have hP : va_P D vwCl [(q, .inr (2, [.ref q_row, .int la, .int n])), (q_row, .inl (k 0, 40, .inl (upd hsz 28 0)))] H := hP
  have hD : va_D A [(q, .inr (2, [.ref q_row, .int la, .int n])), (q_row, .inl (k 0, 40, .inl (upd hsz 28 0)))] := hD
  rw [hE] at hP hD
  refine lv_iinc (v := 29) (lv' := [(3, .int 29), (0, .ref q), (1, .int la), (2, .int n)]) hx hb dX3_renew_25 hl (k := 0) rfl (by decide) (by decide) rfl (fun ls hl => ?_)
  refine lv_goto (tgt := 12) hx hb dX3_renew_28 (by decide) ?_
  refine lv_iload_n hx hb dX3_renew_12 rfl (lv_at hl 0 rfl) ?_
  refine lv_bipush (v := 40) hx hb dX3_renew_13 (by decide) ?_
  refine lv_icmp_ge (tgt := 31) hx hb dX3_renew_15 (by decide) (fun c_30 => absurd c_30 (by decide)) (fun c_30 => ?_)
  refine lv_aload_n hx hb dX3_renew_18 rfl (lv_at hl 1 rfl) ?_
  refine va_get (D := D) (ci := 2) (v := .ref q_row) (C := RX3) (T := TX3) (N := 3) hx hb hts hiX3 hown hK hP 0 rfl rfl 0 (by decide) fl9 (fun _ h9 => h9) rfl dX3_renew_19 ?_
  refine lv_iload_n hx hb dX3_renew_22 rfl (lv_at hl 0 rfl) ?_
  refine lv_iconst (v := 0) hx hb dX3_renew_23 (by decide) ?_
  refine va_iast hx hb hK hP hD hS 1 0 rfl rfl (hs_in (by decide)) dX3_renew_24 (fun H locs hP hD hS => ?_)
  have hE : upd hsz 29 0 = hsz := hs_uz 29
  have hP : va_P D vwCl [(q, .inr (2, [.ref q_row, .int la, .int n])), (q_row, .inl (k 0, 40, .inl (upd hsz 29 0)))] H := hP
  have hD : va_D A [(q, .inr (2, [.ref q_row, .int la, .int n])), (q_row, .inl (k 0, 40, .inl (upd hsz 29 0)))] := hD
  rw [hE] at hP hD
  refine lv_iinc (v := 30) (lv' := [(3, .int 30), (0, .ref q), (1, .int la), (2, .int n)]) hx hb dX3_renew_25 hl (k := 0) rfl (by decide) (by decide) rfl (fun ls hl => ?_)
  refine lv_goto (tgt := 12) hx hb dX3_renew_28 (by decide) ?_
  refine lv_iload_n hx hb dX3_renew_12 rfl (lv_at hl 0 rfl) ?_
  refine lv_bipush (v := 40) hx hb dX3_renew_13 (by decide) ?_
  refine lv_icmp_ge (tgt := 31) hx hb dX3_renew_15 (by decide) (fun c_31 => absurd c_31 (by decide)) (fun c_31 => ?_)
  refine lv_aload_n hx hb dX3_renew_18 rfl (lv_at hl 1 rfl) ?_
  refine va_get (D := D) (ci := 2) (v := .ref q_row) (C := RX3) (T := TX3) (N := 3) hx hb hts hiX3 hown hK hP 0 rfl rfl 0 (by decide) fl9 (fun _ h9 => h9) rfl dX3_renew_19 ?_
  refine lv_iload_n hx hb dX3_renew_22 rfl (lv_at hl 0 rfl) ?_
  refine lv_iconst (v := 0) hx hb dX3_renew_23 (by decide) ?_
  refine va_iast hx hb hK hP hD hS 1 0 rfl rfl (hs_in (by decide)) dX3_renew_24 (fun H locs hP hD hS => ?_)
  have hE : upd hsz 30 0 = hsz := hs_uz 30
  have hP : va_P D vwCl [(q, .inr (2, [.ref q_row, .int la, .int n])), (q_row, .inl (k 0, 40, .inl (upd hsz 30 0)))] H := hP
  have hD : va_D A [(q, .inr (2, [.ref q_row, .int la, .int n])), (q_row, .inl (k 0, 40, .inl (upd hsz 30 0)))] := hD
  rw [hE] at hP hD
  refine lv_iinc (v := 31) (lv' := [(3, .int 31), (0, .ref q), (1, .int la), (2, .int n)]) hx hb dX3_renew_25 hl (k := 0) rfl (by decide) (by decide) rfl (fun ls hl => ?_)
  refine lv_goto (tgt := 12) hx hb dX3_renew_28 (by decide) ?_
  refine lv_iload_n hx hb dX3_renew_12 rfl (lv_at hl 0 rfl) ?_
  refine lv_bipush (v := 40) hx hb dX3_renew_13 (by decide) ?_
  refine lv_icmp_ge (tgt := 31) hx hb dX3_renew_15 (by decide) (fun c_32 => absurd c_32 (by decide)) (fun c_32 => ?_)
  refine lv_aload_n hx hb dX3_renew_18 rfl (lv_at hl 1 rfl) ?_
  refine va_get (D := D) (ci := 2) (v := .ref q_row) (C := RX3) (T := TX3) (N := 3) hx hb hts hiX3 hown hK hP 0 rfl rfl 0 (by decide) fl9 (fun _ h9 => h9) rfl dX3_renew_19 ?_
  refine lv_iload_n hx hb dX3_renew_22 rfl (lv_at hl 0 rfl) ?_
  refine lv_iconst (v := 0) hx hb dX3_renew_23 (by decide) ?_
  refine va_iast hx hb hK hP hD hS 1 0 rfl rfl (hs_in (by decide)) dX3_renew_24 (fun H locs hP hD hS => ?_)
  have hE : upd hsz 31 0 = hsz := hs_uz 31
  have hP : va_P D vwCl [(q, .inr (2, [.ref q_row, .int la, .int n])), (q_row, .inl (k 0, 40, .inl (upd hsz 31 0)))] H := hP
  have hD : va_D A [(q, .inr (2, [.ref q_row, .int la, .int n])), (q_row, .inl (k 0, 40, .inl (upd hsz 31 0)))] := hD
  rw [hE] at hP hD
  refine lv_iinc (v := 32) (lv' := [(3, .int 32), (0, .ref q), (1, .int la), (2, .int n)]) hx hb dX3_renew_25 hl (k := 0) rfl (by decide) (by decide) rfl (fun ls hl => ?_)
  refine lv_goto (tgt := 12) hx hb dX3_renew_28 (by decide) ?_
  refine lv_iload_n hx hb dX3_renew_12 rfl (lv_at hl 0 rfl) ?_
  refine lv_bipush (v := 40) hx hb dX3_renew_13 (by decide) ?_
  refine lv_icmp_ge (tgt := 31) hx hb dX3_renew_15 (by decide) (fun c_33 => absurd c_33 (by decide)) (fun c_33 => ?_)
  refine lv_aload_n hx hb dX3_renew_18 rfl (lv_at hl 1 rfl) ?_
  refine va_get (D := D) (ci := 2) (v := .ref q_row) (C := RX3) (T := TX3) (N := 3) hx hb hts hiX3 hown hK hP 0 rfl rfl 0 (by decide) fl9 (fun _ h9 => h9) rfl dX3_renew_19 ?_
  refine lv_iload_n hx hb dX3_renew_22 rfl (lv_at hl 0 rfl) ?_
  refine lv_iconst (v := 0) hx hb dX3_renew_23 (by decide) ?_
  refine va_iast hx hb hK hP hD hS 1 0 rfl rfl (hs_in (by decide)) dX3_renew_24 (fun H locs hP hD hS => ?_)
  have hE : upd hsz 32 0 = hsz := hs_uz 32
  have hP : va_P D vwCl [(q, .inr (2, [.ref q_row, .int la, .int n])), (q_row, .inl (k 0, 40, .inl (upd hsz 32 0)))] H := hP
  have hD : va_D A [(q, .inr (2, [.ref q_row, .int la, .int n])), (q_row, .inl (k 0, 40, .inl (upd hsz 32 0)))] := hD
  rw [hE] at hP hD
  refine lv_iinc (v := 33) (lv' := [(3, .int 33), (0, .ref q), (1, .int la), (2, .int n)]) hx hb dX3_renew_25 hl (k := 0) rfl (by decide) (by decide) rfl (fun ls hl => ?_)
  refine lv_goto (tgt := 12) hx hb dX3_renew_28 (by decide) ?_
  refine lv_iload_n hx hb dX3_renew_12 rfl (lv_at hl 0 rfl) ?_
  refine lv_bipush (v := 40) hx hb dX3_renew_13 (by decide) ?_
  refine lv_icmp_ge (tgt := 31) hx hb dX3_renew_15 (by decide) (fun c_34 => absurd c_34 (by decide)) (fun c_34 => ?_)
  refine lv_aload_n hx hb dX3_renew_18 rfl (lv_at hl 1 rfl) ?_
  refine va_get (D := D) (ci := 2) (v := .ref q_row) (C := RX3) (T := TX3) (N := 3) hx hb hts hiX3 hown hK hP 0 rfl rfl 0 (by decide) fl9 (fun _ h9 => h9) rfl dX3_renew_19 ?_
  refine lv_iload_n hx hb dX3_renew_22 rfl (lv_at hl 0 rfl) ?_
  refine lv_iconst (v := 0) hx hb dX3_renew_23 (by decide) ?_
  refine va_iast hx hb hK hP hD hS 1 0 rfl rfl (hs_in (by decide)) dX3_renew_24 (fun H locs hP hD hS => ?_)
  have hE : upd hsz 33 0 = hsz := hs_uz 33
  have hP : va_P D vwCl [(q, .inr (2, [.ref q_row, .int la, .int n])), (q_row, .inl (k 0, 40, .inl (upd hsz 33 0)))] H := hP
  have hD : va_D A [(q, .inr (2, [.ref q_row, .int la, .int n])), (q_row, .inl (k 0, 40, .inl (upd hsz 33 0)))] := hD
  rw [hE] at hP hD
  refine lv_iinc (v := 34) (lv' := [(3, .int 34), (0, .ref q), (1, .int la), (2, .int n)]) hx hb dX3_renew_25 hl (k := 0) rfl (by decide) (by decide) rfl (fun ls hl => ?_)
  refine lv_goto (tgt := 12) hx hb dX3_renew_28 (by decide) ?_
  refine lv_iload_n hx hb dX3_renew_12 rfl (lv_at hl 0 rfl) ?_
  refine lv_bipush (v := 40) hx hb dX3_renew_13 (by decide) ?_
  refine lv_icmp_ge (tgt := 31) hx hb dX3_renew_15 (by decide) (fun c_35 => absurd c_35 (by decide)) (fun c_35 => ?_)
  refine lv_aload_n hx hb dX3_renew_18 rfl (lv_at hl 1 rfl) ?_
  refine va_get (D := D) (ci := 2) (v := .ref q_row) (C := RX3) (T := TX3) (N := 3) hx hb hts hiX3 hown hK hP 0 rfl rfl 0 (by decide) fl9 (fun _ h9 => h9) rfl dX3_renew_19 ?_
  refine lv_iload_n hx hb dX3_renew_22 rfl (lv_at hl 0 rfl) ?_
  refine lv_iconst (v := 0) hx hb dX3_renew_23 (by decide) ?_
  refine va_iast hx hb hK hP hD hS 1 0 rfl rfl (hs_in (by decide)) dX3_renew_24 (fun H locs hP hD hS => ?_)
  have hE : upd hsz 34 0 = hsz := hs_uz 34
  have hP : va_P D vwCl [(q, .inr (2, [.ref q_row, .int la, .int n])), (q_row, .inl (k 0, 40, .inl (upd hsz 34 0)))] H := hP
  have hD : va_D A [(q, .inr (2, [.ref q_row, .int la, .int n])), (q_row, .inl (k 0, 40, .inl (upd hsz 34 0)))] := hD
  rw [hE] at hP hD
  refine lv_iinc (v := 35) (lv' := [(3, .int 35), (0, .ref q), (1, .int la), (2, .int n)]) hx hb dX3_renew_25 hl (k := 0) rfl (by decide) (by decide) rfl (fun ls hl => ?_)
  refine lv_goto (tgt := 12) hx hb dX3_renew_28 (by decide) ?_
  refine lv_iload_n hx hb dX3_renew_12 rfl (lv_at hl 0 rfl) ?_
  refine lv_bipush (v := 40) hx hb dX3_renew_13 (by decide) ?_
  refine lv_icmp_ge (tgt := 31) hx hb dX3_renew_15 (by decide) (fun c_36 => absurd c_36 (by decide)) (fun c_36 => ?_)
  refine lv_aload_n hx hb dX3_renew_18 rfl (lv_at hl 1 rfl) ?_
  refine va_get (D := D) (ci := 2) (v := .ref q_row) (C := RX3) (T := TX3) (N := 3) hx hb hts hiX3 hown hK hP 0 rfl rfl 0 (by decide) fl9 (fun _ h9 => h9) rfl dX3_renew_19 ?_
  refine lv_iload_n hx hb dX3_renew_22 rfl (lv_at hl 0 rfl) ?_
  refine lv_iconst (v := 0) hx hb dX3_renew_23 (by decide) ?_
  refine va_iast hx hb hK hP hD hS 1 0 rfl rfl (hs_in (by decide)) dX3_renew_24 (fun H locs hP hD hS => ?_)
  have hE : upd hsz 35 0 = hsz := hs_uz 35
  have hP : va_P D vwCl [(q, .inr (2, [.ref q_row, .int la, .int n])), (q_row, .inl (k 0, 40, .inl (upd hsz 35 0)))] H := hP
  have hD : va_D A [(q, .inr (2, [.ref q_row, .int la, .int n])), (q_row, .inl (k 0, 40, .inl (upd hsz 35 0)))] := hD
  rw [hE] at hP hD
  refine lv_iinc (v := 36) (lv' := [(3, .int 36), (0, .ref q), (1, .int la), (2, .int n)]) hx hb dX3_renew_25 hl (k := 0) rfl (by decide) (by decide) rfl (fun ls hl => ?_)
  refine lv_goto (tgt := 12) hx hb dX3_renew_28 (by decide) ?_
  refine lv_iload_n hx hb dX3_renew_12 rfl (lv_at hl 0 rfl) ?_
  refine lv_bipush (v := 40) hx hb dX3_renew_13 (by decide) ?_
  refine lv_icmp_ge (tgt := 31) hx hb dX3_renew_15 (by decide) (fun c_37 => absurd c_37 (by decide)) (fun c_37 => ?_)
  refine lv_aload_n hx hb dX3_renew_18 rfl (lv_at hl 1 rfl) ?_
  refine va_get (D := D) (ci := 2) (v := .ref q_row) (C := RX3) (T := TX3) (N := 3) hx hb hts hiX3 hown hK hP 0 rfl rfl 0 (by decide) fl9 (fun _ h9 => h9) rfl dX3_renew_19 ?_
  refine lv_iload_n hx hb dX3_renew_22 rfl (lv_at hl 0 rfl) ?_
  refine lv_iconst (v := 0) hx hb dX3_renew_23 (by decide) ?_
  refine va_iast hx hb hK hP hD hS 1 0 rfl rfl (hs_in (by decide)) dX3_renew_24 (fun H locs hP hD hS => ?_)
  have hE : upd hsz 36 0 = hsz := hs_uz 36
  have hP : va_P D vwCl [(q, .inr (2, [.ref q_row, .int la, .int n])), (q_row, .inl (k 0, 40, .inl (upd hsz 36 0)))] H := hP
  have hD : va_D A [(q, .inr (2, [.ref q_row, .int la, .int n])), (q_row, .inl (k 0, 40, .inl (upd hsz 36 0)))] := hD
  rw [hE] at hP hD
  refine lv_iinc (v := 37) (lv' := [(3, .int 37), (0, .ref q), (1, .int la), (2, .int n)]) hx hb dX3_renew_25 hl (k := 0) rfl (by decide) (by decide) rfl (fun ls hl => ?_)
  refine lv_goto (tgt := 12) hx hb dX3_renew_28 (by decide) ?_
  refine lv_iload_n hx hb dX3_renew_12 rfl (lv_at hl 0 rfl) ?_
  refine lv_bipush (v := 40) hx hb dX3_renew_13 (by decide) ?_
  refine lv_icmp_ge (tgt := 31) hx hb dX3_renew_15 (by decide) (fun c_38 => absurd c_38 (by decide)) (fun c_38 => ?_)
  refine lv_aload_n hx hb dX3_renew_18 rfl (lv_at hl 1 rfl) ?_
  refine va_get (D := D) (ci := 2) (v := .ref q_row) (C := RX3) (T := TX3) (N := 3) hx hb hts hiX3 hown hK hP 0 rfl rfl 0 (by decide) fl9 (fun _ h9 => h9) rfl dX3_renew_19 ?_
  refine lv_iload_n hx hb dX3_renew_22 rfl (lv_at hl 0 rfl) ?_
  refine lv_iconst (v := 0) hx hb dX3_renew_23 (by decide) ?_
  refine va_iast hx hb hK hP hD hS 1 0 rfl rfl (hs_in (by decide)) dX3_renew_24 (fun H locs hP hD hS => ?_)
  have hE : upd hsz 37 0 = hsz := hs_uz 37
  have hP : va_P D vwCl [(q, .inr (2, [.ref q_row, .int la, .int n])), (q_row, .inl (k 0, 40, .inl (upd hsz 37 0)))] H := hP
  have hD : va_D A [(q, .inr (2, [.ref q_row, .int la, .int n])), (q_row, .inl (k 0, 40, .inl (upd hsz 37 0)))] := hD
  rw [hE] at hP hD
  refine lv_iinc (v := 38) (lv' := [(3, .int 38), (0, .ref q), (1, .int la), (2, .int n)]) hx hb dX3_renew_25 hl (k := 0) rfl (by decide) (by decide) rfl (fun ls hl => ?_)
  refine lv_goto (tgt := 12) hx hb dX3_renew_28 (by decide) ?_
  refine lv_iload_n hx hb dX3_renew_12 rfl (lv_at hl 0 rfl) ?_
  refine lv_bipush (v := 40) hx hb dX3_renew_13 (by decide) ?_
  refine lv_icmp_ge (tgt := 31) hx hb dX3_renew_15 (by decide) (fun c_39 => absurd c_39 (by decide)) (fun c_39 => ?_)
  refine lv_aload_n hx hb dX3_renew_18 rfl (lv_at hl 1 rfl) ?_
  refine va_get (D := D) (ci := 2) (v := .ref q_row) (C := RX3) (T := TX3) (N := 3) hx hb hts hiX3 hown hK hP 0 rfl rfl 0 (by decide) fl9 (fun _ h9 => h9) rfl dX3_renew_19 ?_
  refine lv_iload_n hx hb dX3_renew_22 rfl (lv_at hl 0 rfl) ?_
  refine lv_iconst (v := 0) hx hb dX3_renew_23 (by decide) ?_
  refine va_iast hx hb hK hP hD hS 1 0 rfl rfl (hs_in (by decide)) dX3_renew_24 (fun H locs hP hD hS => ?_)
  have hE : upd hsz 38 0 = hsz := hs_uz 38
  have hP : va_P D vwCl [(q, .inr (2, [.ref q_row, .int la, .int n])), (q_row, .inl (k 0, 40, .inl (upd hsz 38 0)))] H := hP
  have hD : va_D A [(q, .inr (2, [.ref q_row, .int la, .int n])), (q_row, .inl (k 0, 40, .inl (upd hsz 38 0)))] := hD
  rw [hE] at hP hD
  refine lv_iinc (v := 39) (lv' := [(3, .int 39), (0, .ref q), (1, .int la), (2, .int n)]) hx hb dX3_renew_25 hl (k := 0) rfl (by decide) (by decide) rfl (fun ls hl => ?_)
  refine lv_goto (tgt := 12) hx hb dX3_renew_28 (by decide) ?_
  refine lv_iload_n hx hb dX3_renew_12 rfl (lv_at hl 0 rfl) ?_
  refine lv_bipush (v := 40) hx hb dX3_renew_13 (by decide) ?_
  refine lv_icmp_ge (tgt := 31) hx hb dX3_renew_15 (by decide) (fun c_40 => absurd c_40 (by decide)) (fun c_40 => ?_)
  refine lv_aload_n hx hb dX3_renew_18 rfl (lv_at hl 1 rfl) ?_
  refine va_get (D := D) (ci := 2) (v := .ref q_row) (C := RX3) (T := TX3) (N := 3) hx hb hts hiX3 hown hK hP 0 rfl rfl 0 (by decide) fl9 (fun _ h9 => h9) rfl dX3_renew_19 ?_
  refine lv_iload_n hx hb dX3_renew_22 rfl (lv_at hl 0 rfl) ?_
  refine lv_iconst (v := 0) hx hb dX3_renew_23 (by decide) ?_
  refine va_iast hx hb hK hP hD hS 1 0 rfl rfl (hs_in (by decide)) dX3_renew_24 (fun H locs hP hD hS => ?_)
  have hE : upd hsz 39 0 = hsz := hs_uz 39
  have hP : va_P D vwCl [(q, .inr (2, [.ref q_row, .int la, .int n])), (q_row, .inl (k 0, 40, .inl (upd hsz 39 0)))] H := hP
  have hD : va_D A [(q, .inr (2, [.ref q_row, .int la, .int n])), (q_row, .inl (k 0, 40, .inl (upd hsz 39 0)))] := hD
  rw [hE] at hP hD
  refine lv_iinc (v := 40) (lv' := [(3, .int 40), (0, .ref q), (1, .int la), (2, .int n)]) hx hb dX3_renew_25 hl (k := 0) rfl (by decide) (by decide) rfl (fun ls hl => ?_)
  refine lv_goto (tgt := 12) hx hb dX3_renew_28 (by decide) ?_
  refine lv_iload_n hx hb dX3_renew_12 rfl (lv_at hl 0 rfl) ?_
  refine lv_bipush (v := 40) hx hb dX3_renew_13 (by decide) ?_
  refine lv_icmp_ge (tgt := 31) hx hb dX3_renew_15 (by decide) (fun c_41 => ?_) (fun c_41 => absurd c_41 (by decide))
  exact hs_vret hx hb hr hlocks hK hP hD hS () [] rfl (by decide) dX3_renew_31 (trivial)
