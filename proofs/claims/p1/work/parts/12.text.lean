set_option maxHeartbeats 4000000 in
set_option maxRecDepth 100000 in
theorem c_advance0 (l : Launch) (D : va_G) (k : Nat → ClassId) (sz : Nat) (a : Nat) (a_bytes : Nat) (a_kind : Int32) (a_start : Int32) (a_value : Int32)  : MV l yX4_advance wsX4_advance ({ frames := 0, cells := 0, slots := 0, locals := 0 }) D k [.ref a] [(a, .inr (3, [.ref a_bytes, .int 0, .int a_kind, .int a_start, .int 0, .int a_value]))] sz (fun (u : Unit) => True) (fun (u : Unit) => [(a, .inr (3, [.ref a_bytes, .int 0, .int 0, .int 0, .int 0, .int 0]))]) := by
  refine Met.ofW (cc := cX4_advance) (maxL := 1) (ret := none) (by decide) rfl ?_
  intro p e s m args below meth c s₁ B hml hv
  obtain ⟨rfl, hsz, hP, hK, hD0, hN⟩ := hv
  have hx := B.exec
  have hb := B.bytes
  have hr := B.returns
  have hlocks := B.notSynchronized
  have hts := atoms_spec (ws := wsX4_advance) B.pre
  have hown : s.vm.findClass RX4 = some m.cls := findClass_of_methodNamed B.named
  have hiX4 : ∀ w ∈ u_ws RX4 TX4 6, w ∈ wsX4_advance := by decide +kernel
  have fl15 := hts (.fieldLink RX4 15 "HalfScales$Tape" "behind" "I") (by decide +kernel)
  have fl22 := hts (.fieldLink RX4 22 "HalfScales$Tape" "start" "I") (by decide +kernel)
  have fl25 := hts (.fieldLink RX4 25 "HalfScales$Tape" "length" "I") (by decide +kernel)
  have fl28 := hts (.fieldLink RX4 28 "HalfScales$Tape" "value" "I") (by decide +kernel)
  have fl31 := hts (.fieldLink RX4 31 "HalfScales$Tape" "kind" "I") (by decide +kernel)
  subst hsz
  have hD := hD0.self (sz := s.heap.size)
  generalize hAe : va_A [(a, .inr (3, [.ref a_bytes, .int 0, .int a_kind, .int a_start, .int 0, .int a_value]))] s.heap.size = A at hD ⊢
  have hA : ∀ q : Nat, s.heap.size ≤ q → A q := fun q h => by rw [← hAe]; exact Or.inr h
  have hS : va_S A s.heap s.heap [] := va_S.rf
  have hl := lv_entry ([.ref a]) (n := 1) (Nat.le_of_ble_eq_true rfl)
  rw [lg_entry_eq]
  generalize (lg_sl ([.ref a]) ++ List.replicate (1 - (lg_sl ([.ref a])).length) Slot.unset).toArray = ls at hl ⊢
  have hl : lv_has ls 1 [(0, .ref a)] := hl
  have hP : va_P D vwCl [(a, .inr (3, [.ref a_bytes, .int 0, .int a_kind, .int a_start, .int 0, .int a_value]))] s.heap := hP
  refine lv_aload_n hx hb dX4_advance_0 rfl (lv_at hl 0 rfl) ?_
  refine lv_aload_n hx hb dX4_advance_1 rfl (lv_at hl 0 rfl) ?_
  refine va_get (D := D) (ci := 3) (v := .int 0) (C := RX4) (T := TX4) (N := 6) hx hb hts hiX4 hown hK hP 0 rfl rfl 4 (by decide) fl15 (fun _ h9 => h9) rfl dX4_advance_2 ?_
  refine va_put (D := D) (ci := 3) (v := .int 0) (ty := .int) (C := RX4) (T := TX4) (N := 6) hx hb hts hiX4 tyX4 tyX4_ok nmX4 hown hK hP hD hS 0 rfl rfl 3 (by decide) fl22 (fun _ h9 => h9) rfl (by decide +kernel) rfl rfl (Nat.le_of_ble_eq_true rfl) dX4_advance_5 (fun H locs hP hD hS => ?_)
  have hP : va_P D vwCl [(a, .inr (3, [.ref a_bytes, .int 0, .int a_kind, .int 0, .int 0, .int a_value]))] H := hP
  have hD : va_D A [(a, .inr (3, [.ref a_bytes, .int 0, .int a_kind, .int 0, .int 0, .int a_value]))] := hD
  refine lv_aload_n hx hb dX4_advance_8 rfl (lv_at hl 0 rfl) ?_
  refine va_get (D := D) (ci := 3) (v := .int 0) (C := RX4) (T := TX4) (N := 6) hx hb hts hiX4 hown hK hP 0 rfl rfl 3 (by decide) fl22 (fun _ h9 => h9) rfl dX4_advance_9 ?_
  refine lv_aload_n hx hb dX4_advance_12 rfl (lv_at hl 0 rfl) ?_
  refine va_get (D := D) (ci := 3) (v := .int 0) (C := RX4) (T := TX4) (N := 6) hx hb hts hiX4 hown hK hP 0 rfl rfl 1 (by decide) fl25 (fun _ h9 => h9) rfl dX4_advance_13 ?_
  refine lv_icmp_ge (tgt := 46) hx hb dX4_advance_16 (by decide) (fun c_1 => ?_) (fun c_1 => absurd c_1 (by decide))
  refine lv_aload_n hx hb dX4_advance_46 rfl (lv_at hl 0 rfl) ?_
  refine lv_aload_n hx hb dX4_advance_47 rfl (lv_at hl 0 rfl) ?_
  refine va_get (D := D) (ci := 3) (v := .int 0) (C := RX4) (T := TX4) (N := 6) hx hb hts hiX4 hown hK hP 0 rfl rfl 3 (by decide) fl22 (fun _ h9 => h9) rfl dX4_advance_48 ?_
  refine va_put (D := D) (ci := 3) (v := .int 0) (ty := .int) (C := RX4) (T := TX4) (N := 6) hx hb hts hiX4 tyX4 tyX4_ok nmX4 hown hK hP hD hS 0 rfl rfl 4 (by decide) fl15 (fun _ h9 => h9) rfl (by decide +kernel) rfl rfl (Nat.le_of_ble_eq_true rfl) dX4_advance_51 (fun H locs hP hD hS => ?_)
  have hP : va_P D vwCl [(a, .inr (3, [.ref a_bytes, .int 0, .int a_kind, .int 0, .int 0, .int a_value]))] H := hP
  have hD : va_D A [(a, .inr (3, [.ref a_bytes, .int 0, .int a_kind, .int 0, .int 0, .int a_value]))] := hD
  refine lv_aload_n hx hb dX4_advance_54 rfl (lv_at hl 0 rfl) ?_
  refine lv_iconst (v := 0) hx hb dX4_advance_55 (by decide) ?_
  refine va_put (D := D) (ci := 3) (v := .int 0) (ty := .int) (C := RX4) (T := TX4) (N := 6) hx hb hts hiX4 tyX4 tyX4_ok nmX4 hown hK hP hD hS 0 rfl rfl 5 (by decide) fl28 (fun _ h9 => h9) rfl (by decide +kernel) rfl rfl (Nat.le_of_ble_eq_true rfl) dX4_advance_56 (fun H locs hP hD hS => ?_)
  have hP : va_P D vwCl [(a, .inr (3, [.ref a_bytes, .int 0, .int a_kind, .int 0, .int 0, .int 0]))] H := hP
  have hD : va_D A [(a, .inr (3, [.ref a_bytes, .int 0, .int a_kind, .int 0, .int 0, .int 0]))] := hD
  refine lv_aload_n hx hb dX4_advance_59 rfl (lv_at hl 0 rfl) ?_
  refine va_get (D := D) (ci := 3) (v := .int 0) (C := RX4) (T := TX4) (N := 6) hx hb hts hiX4 hown hK hP 0 rfl rfl 3 (by decide) fl22 (fun _ h9 => h9) rfl dX4_advance_60 ?_
  refine lv_aload_n hx hb dX4_advance_63 rfl (lv_at hl 0 rfl) ?_
  refine va_get (D := D) (ci := 3) (v := .int 0) (C := RX4) (T := TX4) (N := 6) hx hb hts hiX4 hown hK hP 0 rfl rfl 1 (by decide) fl25 (fun _ h9 => h9) rfl dX4_advance_64 ?_
  refine lv_icmp_lt (tgt := 76) hx hb dX4_advance_67 (by decide) (fun c_2 => absurd c_2 (by decide)) (fun c_2 => ?_)
  refine lv_aload_n hx hb dX4_advance_70 rfl (lv_at hl 0 rfl) ?_
  refine lv_iconst (v := 0) hx hb dX4_advance_71 (by decide) ?_
  refine va_put (D := D) (ci := 3) (v := .int 0) (ty := .int) (C := RX4) (T := TX4) (N := 6) hx hb hts hiX4 tyX4 tyX4_ok nmX4 hown hK hP hD hS 0 rfl rfl 2 (by decide) fl31 (fun _ h9 => h9) rfl (by decide +kernel) rfl rfl (Nat.le_of_ble_eq_true rfl) dX4_advance_72 (fun H locs hP hD hS => ?_)
  have hP : va_P D vwCl [(a, .inr (3, [.ref a_bytes, .int 0, .int 0, .int 0, .int 0, .int 0]))] H := hP
  have hD : va_D A [(a, .inr (3, [.ref a_bytes, .int 0, .int 0, .int 0, .int 0, .int 0]))] := hD
  exact hs_vret hx hb hr hlocks hK hP hD hS () [0] rfl (by decide) dX4_advance_75 (trivial)

set_option maxHeartbeats 4000000 in
set_option maxRecDepth 100000 in
theorem c_restart0 (l : Launch) (D : va_G) (k : Nat → ClassId) (sz : Nat) (a : Nat) (a_bytes : Nat) (a_kind : Int32) (a_start : Int32) (a_behind : Int32) (a_value : Int32)  : MV l yX4_restart wsX4_restart ({ frames := 1, cells := 0, slots := 0, locals := 20 }) D k [.ref a] [(a, .inr (3, [.ref a_bytes, .int 0, .int a_kind, .int a_start, .int a_behind, .int a_value]))] sz (fun (u : Unit) => True) (fun (u : Unit) => [(a, .inr (3, [.ref a_bytes, .int 0, .int 0, .int 0, .int 0, .int 0]))]) := by
  refine Met.ofW (cc := cX4_restart) (maxL := 1) (ret := none) (by decide) rfl ?_
  intro p e s m args below meth c s₁ B hml hv
  obtain ⟨rfl, hsz, hP, hK, hD0, hN⟩ := hv
  have hx := B.exec
  have hb := B.bytes
  have hr := B.returns
  have hlocks := B.notSynchronized
  have hts := atoms_spec (ws := wsX4_restart) B.pre
  have hown : s.vm.findClass RX4 = some m.cls := findClass_of_methodNamed B.named
  have hiX4 : ∀ w ∈ u_ws RX4 TX4 6, w ∈ wsX4_restart := by decide +kernel
  have fl15 := hts (.fieldLink RX4 15 "HalfScales$Tape" "behind" "I") (by decide +kernel)
  subst hsz
  have hD := hD0.self (sz := s.heap.size)
  generalize hAe : va_A [(a, .inr (3, [.ref a_bytes, .int 0, .int a_kind, .int a_start, .int a_behind, .int a_value]))] s.heap.size = A at hD ⊢
  have hA : ∀ q : Nat, s.heap.size ≤ q → A q := fun q h => by rw [← hAe]; exact Or.inr h
  have hS : va_S A s.heap s.heap [] := va_S.rf
  have hl := lv_entry ([.ref a]) (n := 1) (Nat.le_of_ble_eq_true rfl)
  rw [lg_entry_eq]
  generalize (lg_sl ([.ref a]) ++ List.replicate (1 - (lg_sl ([.ref a])).length) Slot.unset).toArray = ls at hl ⊢
  have hl : lv_has ls 1 [(0, .ref a)] := hl
  have hP : va_P D vwCl [(a, .inr (3, [.ref a_bytes, .int 0, .int a_kind, .int a_start, .int a_behind, .int a_value]))] s.heap := hP
  refine lv_aload_n hx hb dX4_restart_0 rfl (lv_at hl 0 rfl) ?_
  refine lv_iconst (v := 0) hx hb dX4_restart_1 (by decide) ?_
  refine va_put (D := D) (ci := 3) (v := .int 0) (ty := .int) (C := RX4) (T := TX4) (N := 6) hx hb hts hiX4 tyX4 tyX4_ok nmX4 hown hK hP hD hS 0 rfl rfl 4 (by decide) fl15 (fun _ h9 => h9) rfl (by decide +kernel) rfl rfl (Nat.le_of_ble_eq_true rfl) dX4_restart_2 (fun H locs hP hD hS => ?_)
  have hP : va_P D vwCl [(a, .inr (3, [.ref a_bytes, .int 0, .int a_kind, .int a_start, .int 0, .int a_value]))] H := hP
  have hD : va_D A [(a, .inr (3, [.ref a_bytes, .int 0, .int a_kind, .int a_start, .int 0, .int a_value]))] := hD
  refine lv_aload_n hx hb dX4_restart_5 rfl (lv_at hl 0 rfl) ?_
  refine hs_cv (va_runV (As := []) (rest := []) ⟨hx, hb, hml, hown, hts⟩ (c_advance0 l D k _ a a_bytes a_kind a_start a_value) (cwV 0 hts gX4_restart_X4_advance rfl rfl rfl (by decide +kernel) ⟨Nat.le_of_ble_eq_true rfl, Nat.le_of_ble_eq_true rfl⟩) (hs_preV hK hN (hs_subP (w := [(a, .inr (3, [.ref a_bytes, .int 0, .int a_kind, .int a_start, .int 0, .int a_value]))]) hP [0] rfl) (hD.sub (ws' := [(a, .inr (3, [.ref a_bytes, .int 0, .int a_kind, .int a_start, .int 0, .int a_value]))]) [0] (by decide) rfl) (ci := 3) (q0 := 0) rfl rfl) rfl rfl hl.1 rfl (lv_room (Nat.le_of_ble_eq_true rfl)) dX4_restart_6 ⟨Nat.le_of_ble_eq_true rfl, Nat.le_of_ble_eq_true rfl⟩) hP hD hS hA [0] [] [] rfl rfl (by decide) (by decide) [0] (fun u_3 => [(a, .inr (3, [.ref a_bytes, .int 0, .int 0, .int 0, .int 0, .int 0]))]) (fun _ => rfl) (by decide) (fun u_3 H locs hw_2 hP hD hS => ?_)
  have hP : va_P D vwCl [(a, .inr (3, [.ref a_bytes, .int 0, .int 0, .int 0, .int 0, .int 0]))] H := hP
  have hD : va_D A [(a, .inr (3, [.ref a_bytes, .int 0, .int 0, .int 0, .int 0, .int 0]))] := hD
  exact hs_vret hx hb hr hlocks hK hP hD hS () [0] rfl (by decide) dX4_restart_9 (trivial)

set_option maxHeartbeats 4000000 in
set_option maxRecDepth 100000 in
theorem c_checkCase0 (l : Launch) (D : va_G) (k : Nat → ClassId) (sz : Nat) (ee : Nat) (ee_tape : Nat) (ee_draft : Nat) (ee_toldOnce : Int32) (ee_place : Int32) (q : Nat) (q_ahead : Nat) (q_ways : Nat) (q_size : Int32) (t_weights : Nat) (t_kindOf : Nat) (t_light : Nat) (t_heavy : Nat) (t_seenBy : Nat) (t_seenCut : Nat) (t_seenFound : Nat) (wf : Nat → Int32)  : MV l yX5_checkCase wsX5_checkCase ({ frames := 2, cells := 0, slots := 0, locals := 47 }) D k [.ref ee, .ref q] [(ee, .inr (4, [.ref ee_tape, .ref ee_draft, .int ee_toldOnce, .int 0, .int ee_place])), (ee_draft, .inr (5, [.ref t_weights, .ref t_kindOf, .ref t_light, .ref t_heavy, .ref t_seenBy, .ref t_seenCut, .ref t_seenFound, .int 2, .int 0, .int 0, .int 0, .int 0, .int 2, .int 0, .int 0])), (q, .inr (1, [.ref q_ahead, .ref q_ways, .int q_size])), (q_ahead, .inl (k 0, 5, .inl (hsz))), (q_ways, .inl (k 0, 32, .inl (wf)))] sz (fun (u : Unit) => True) (fun (u : Unit) => [(ee, .inr (4, [.ref ee_tape, .ref ee_draft, .int ee_toldOnce, .int 0, .int ee_place])), (ee_draft, .inr (5, [.ref t_weights, .ref t_kindOf, .ref t_light, .ref t_heavy, .ref t_seenBy, .ref t_seenCut, .ref t_seenFound, .int 2, .int 0, .int 0, .int 0, .int 0, .int 2, .int 0, .int 0])), (q, .inr (1, [.ref q_ahead, .ref q_ways, .int 2])), (q_ahead, .inl (k 0, 5, .inl (hsz))), (q_ways, .inl (k 0, 32, .inl (upd (upd (upd (upd wf 0 1) 1 1) 2 1) 3 2)))]) := by
  refine Met.ofW (cc := cX5_checkCase) (maxL := 3) (ret := none) (by decide) rfl ?_
  intro p e s m args below meth c s₁ B hml hv
  obtain ⟨rfl, hsz, hP, hK, hD0, hN⟩ := hv
  have hx := B.exec
  have hb := B.bytes
  have hr := B.returns
  have hlocks := B.notSynchronized
  have hts := atoms_spec (ws := wsX5_checkCase) B.pre
  have hown : s.vm.findClass RX5 = some m.cls := findClass_of_methodNamed B.named
  have hiX5 : ∀ w ∈ u_ws RX5 TX5 5, w ∈ wsX5_checkCase := by decide +kernel
  have hiX6 : ∀ w ∈ u_ws RX6 TX6 15, w ∈ wsX5_checkCase := by decide +kernel
  have fl21 := hts (.fieldLink RX5 21 "HalfScales$Teller" "draft" "LHalfScales$Thing;") (by decide +kernel)
  have fl117 := hts (.fieldLink RX5 117 "HalfScales$Thing" "pairCount" "I") (by decide +kernel)
  subst hsz
  have hD := hD0.self (sz := s.heap.size)
  generalize hAe : va_A [(ee, .inr (4, [.ref ee_tape, .ref ee_draft, .int ee_toldOnce, .int 0, .int ee_place])), (ee_draft, .inr (5, [.ref t_weights, .ref t_kindOf, .ref t_light, .ref t_heavy, .ref t_seenBy, .ref t_seenCut, .ref t_seenFound, .int 2, .int 0, .int 0, .int 0, .int 0, .int 2, .int 0, .int 0])), (q, .inr (1, [.ref q_ahead, .ref q_ways, .int q_size])), (q_ahead, .inl (k 0, 5, .inl (hsz))), (q_ways, .inl (k 0, 32, .inl (wf)))] s.heap.size = A at hD ⊢
  have hA : ∀ q : Nat, s.heap.size ≤ q → A q := fun q h => by rw [← hAe]; exact Or.inr h
  have hS : va_S A s.heap s.heap [] := va_S.rf
  have hl := lv_entry ([.ref ee, .ref q]) (n := 3) (Nat.le_of_ble_eq_true rfl)
  rw [lg_entry_eq]
  generalize (lg_sl ([.ref ee, .ref q]) ++ List.replicate (3 - (lg_sl ([.ref ee, .ref q])).length) Slot.unset).toArray = ls at hl ⊢
  have hl : lv_has ls 3 [(0, .ref ee), (1, .ref q)] := hl
  have hP : va_P D vwCl [(ee, .inr (4, [.ref ee_tape, .ref ee_draft, .int ee_toldOnce, .int 0, .int ee_place])), (ee_draft, .inr (5, [.ref t_weights, .ref t_kindOf, .ref t_light, .ref t_heavy, .ref t_seenBy, .ref t_seenCut, .ref t_seenFound, .int 2, .int 0, .int 0, .int 0, .int 0, .int 2, .int 0, .int 0])), (q, .inr (1, [.ref q_ahead, .ref q_ways, .int q_size])), (q_ahead, .inl (k 0, 5, .inl (hsz))), (q_ways, .inl (k 0, 32, .inl (wf)))] s.heap := hP
  refine lv_iconst (v := 0) hx hb dX5_checkCase_0 (by decide) ?_
  refine lv_istore_n (lv' := [(2, .int 0), (0, .ref ee), (1, .ref q)]) hx hb dX5_checkCase_1 rfl hl (by decide) rfl (fun ls hl => ?_)
  refine lv_iload_n hx hb dX5_checkCase_2 rfl (lv_at hl 0 rfl) ?_
  refine lv_aload_n hx hb dX5_checkCase_3 rfl (lv_at hl 1 rfl) ?_
  refine va_get (D := D) (ci := 4) (v := .ref ee_draft) (C := RX5) (T := TX5) (N := 5) hx hb hts hiX5 hown hK hP 0 rfl rfl 1 (by decide) fl21 (fun _ h9 => h9) rfl dX5_checkCase_4 ?_
  refine va_get (D := D) (ci := 5) (v := .int 0) (C := RX6) (T := TX6) (N := 15) hx hb hts hiX6 hown hK hP 1 rfl rfl 13 (by decide) fl117 (fun _ h9 => h9) rfl dX5_checkCase_7 ?_
  refine lv_icmp_ge (tgt := 63) hx hb dX5_checkCase_10 (by decide) (fun c_1 => ?_) (fun c_1 => absurd c_1 (by decide))
  refine lv_aload_n hx hb dX5_checkCase_63 rfl (lv_at hl 2 rfl) ?_
  refine lv_aload_n hx hb dX5_checkCase_64 rfl (lv_at hl 1 rfl) ?_
  refine va_get (D := D) (ci := 4) (v := .ref ee_draft) (C := RX5) (T := TX5) (N := 5) hx hb hts hiX5 hown hK hP 0 rfl rfl 1 (by decide) fl21 (fun _ h9 => h9) rfl dX5_checkCase_65 ?_
  refine hs_cv (va_runV (As := [.ref ee_draft]) (rest := []) ⟨hx, hb, hml, hown, hts⟩ (c_learn0 l D k _ q q_ahead q_ways q_size ee_draft t_weights t_kindOf t_light t_heavy t_seenBy t_seenCut t_seenFound) (cwV 1 hts gX5_checkCase_X2_learn rfl rfl rfl (by decide +kernel) ⟨Nat.le_of_ble_eq_true rfl, Nat.le_of_ble_eq_true rfl⟩) (hs_preV hK hN (hs_subP (w := [(q, .inr (1, [.ref q_ahead, .ref q_ways, .int q_size])), (q_ahead, .inl (k 0, 5, .inl (hsz))), (ee_draft, .inr (5, [.ref t_weights, .ref t_kindOf, .ref t_light, .ref t_heavy, .ref t_seenBy, .ref t_seenCut, .ref t_seenFound, .int 2, .int 0, .int 0, .int 0, .int 0, .int 2, .int 0, .int 0]))]) hP [2, 3, 1] rfl) (hD.sub (ws' := [(q, .inr (1, [.ref q_ahead, .ref q_ways, .int q_size])), (q_ahead, .inl (k 0, 5, .inl (hsz))), (ee_draft, .inr (5, [.ref t_weights, .ref t_kindOf, .ref t_light, .ref t_heavy, .ref t_seenBy, .ref t_seenCut, .ref t_seenFound, .int 2, .int 0, .int 0, .int 0, .int 0, .int 2, .int 0, .int 0]))]) [2, 3, 1] (by decide) rfl) (ci := 1) (q0 := 0) rfl rfl) rfl rfl hl.1 rfl (lv_room (Nat.le_of_ble_eq_true rfl)) dX5_checkCase_68 ⟨Nat.le_of_ble_eq_true rfl, Nat.le_of_ble_eq_true rfl⟩) hP hD hS hA [2, 3, 1] [0, 4] [(ee, .inr (4, [.ref ee_tape, .ref ee_draft, .int ee_toldOnce, .int 0, .int ee_place])), (q_ways, .inl (k 0, 32, .inl (wf)))] rfl rfl (by decide) (by decide) [0, 4, 2, 3, 1] (fun u_4 => [(ee, .inr (4, [.ref ee_tape, .ref ee_draft, .int ee_toldOnce, .int 0, .int ee_place])), (ee_draft, .inr (5, [.ref t_weights, .ref t_kindOf, .ref t_light, .ref t_heavy, .ref t_seenBy, .ref t_seenCut, .ref t_seenFound, .int 2, .int 0, .int 0, .int 0, .int 0, .int 2, .int 0, .int 0])), (q, .inr (1, [.ref q_ahead, .ref q_ways, .int 2])), (q_ahead, .inl (k 0, 5, .inl (hsz))), (q_ways, .inl (k 0, 32, .inl (wf)))]) (fun _ => rfl) (by decide) (fun u_4 H locs hw_3 hP hD hS => ?_)
  have hP : va_P D vwCl [(ee, .inr (4, [.ref ee_tape, .ref ee_draft, .int ee_toldOnce, .int 0, .int ee_place])), (ee_draft, .inr (5, [.ref t_weights, .ref t_kindOf, .ref t_light, .ref t_heavy, .ref t_seenBy, .ref t_seenCut, .ref t_seenFound, .int 2, .int 0, .int 0, .int 0, .int 0, .int 2, .int 0, .int 0])), (q, .inr (1, [.ref q_ahead, .ref q_ways, .int 2])), (q_ahead, .inl (k 0, 5, .inl (hsz))), (q_ways, .inl (k 0, 32, .inl (wf)))] H := hP
  have hD : va_D A [(ee, .inr (4, [.ref ee_tape, .ref ee_draft, .int ee_toldOnce, .int 0, .int ee_place])), (ee_draft, .inr (5, [.ref t_weights, .ref t_kindOf, .ref t_light, .ref t_heavy, .ref t_seenBy, .ref t_seenCut, .ref t_seenFound, .int 2, .int 0, .int 0, .int 0, .int 0, .int 2, .int 0, .int 0])), (q, .inr (1, [.ref q_ahead, .ref q_ways, .int 2])), (q_ahead, .inl (k 0, 5, .inl (hsz))), (q_ways, .inl (k 0, 32, .inl (wf)))] := hD
  refine lv_aload_n hx hb dX5_checkCase_71 rfl (lv_at hl 2 rfl) ?_
  refine hs_ci (va_runV (As := []) (rest := []) ⟨hx, hb, hml, hown, hts⟩ (c_howMany_n l D k _ q q_ahead q_ways wf) (cwV 0 hts gX5_checkCase_X2_howMany rfl rfl rfl (by decide +kernel) ⟨Nat.le_of_ble_eq_true rfl, Nat.le_of_ble_eq_true rfl⟩) (hs_preV hK hN (hs_subP (w := [(q, .inr (1, [.ref q_ahead, .ref q_ways, .int 2])), (q_ahead, .inl (k 0, 5, .inl (hsz))), (q_ways, .inl (k 0, 32, .inl (wf)))]) hP [2, 3, 4] rfl) (hD.sub (ws' := [(q, .inr (1, [.ref q_ahead, .ref q_ways, .int 2])), (q_ahead, .inl (k 0, 5, .inl (hsz))), (q_ways, .inl (k 0, 32, .inl (wf)))]) [2, 3, 4] (by decide) rfl) (ci := 1) (q0 := 0) rfl rfl) rfl rfl hl.1 rfl (lv_room (Nat.le_of_ble_eq_true rfl)) dX5_checkCase_72 ⟨Nat.le_of_ble_eq_true rfl, Nat.le_of_ble_eq_true rfl⟩) hP hD hS hA [2, 3, 4] [0, 1] [(ee, .inr (4, [.ref ee_tape, .ref ee_draft, .int ee_toldOnce, .int 0, .int ee_place])), (ee_draft, .inr (5, [.ref t_weights, .ref t_kindOf, .ref t_light, .ref t_heavy, .ref t_seenBy, .ref t_seenCut, .ref t_seenFound, .int 2, .int 0, .int 0, .int 0, .int 0, .int 2, .int 0, .int 0]))] rfl rfl (by decide) (by decide) [0, 1, 2, 3, 4] (fun u_7 => [(ee, .inr (4, [.ref ee_tape, .ref ee_draft, .int ee_toldOnce, .int 0, .int ee_place])), (ee_draft, .inr (5, [.ref t_weights, .ref t_kindOf, .ref t_light, .ref t_heavy, .ref t_seenBy, .ref t_seenCut, .ref t_seenFound, .int 2, .int 0, .int 0, .int 0, .int 0, .int 2, .int 0, .int 0])), (q, .inr (1, [.ref q_ahead, .ref q_ways, .int 2])), (q_ahead, .inl (k 0, 5, .inl (hsz))), (q_ways, .inl (k 0, 32, .inl (upd (upd (upd (upd wf 0 1) 1 1) 2 1) 3 2)))]) (fun _ => rfl) (by decide) (fun r_5 u_7 H locs hw_6 hP hD hS => ?_)
  have hP : va_P D vwCl [(ee, .inr (4, [.ref ee_tape, .ref ee_draft, .int ee_toldOnce, .int 0, .int ee_place])), (ee_draft, .inr (5, [.ref t_weights, .ref t_kindOf, .ref t_light, .ref t_heavy, .ref t_seenBy, .ref t_seenCut, .ref t_seenFound, .int 2, .int 0, .int 0, .int 0, .int 0, .int 2, .int 0, .int 0])), (q, .inr (1, [.ref q_ahead, .ref q_ways, .int 2])), (q_ahead, .inl (k 0, 5, .inl (hsz))), (q_ways, .inl (k 0, 32, .inl (upd (upd (upd (upd wf 0 1) 1 1) 2 1) 3 2)))] H := hP
  have hD : va_D A [(ee, .inr (4, [.ref ee_tape, .ref ee_draft, .int ee_toldOnce, .int 0, .int ee_place])), (ee_draft, .inr (5, [.ref t_weights, .ref t_kindOf, .ref t_light, .ref t_heavy, .ref t_seenBy, .ref t_seenCut, .ref t_seenFound, .int 2, .int 0, .int 0, .int 0, .int 0, .int 2, .int 0, .int 0])), (q, .inr (1, [.ref q_ahead, .ref q_ways, .int 2])), (q_ahead, .inl (k 0, 5, .inl (hsz))), (q_ways, .inl (k 0, 32, .inl (upd (upd (upd (upd wf 0 1) 1 1) 2 1) 3 2)))] := hD
  refine hs_topi 2 (hw_6.trans (by first | rfl | decide +kernel | rfl)) ?_
  refine lv_if_ne (tgt := 84) hx hb dX5_checkCase_75 (by decide) (fun c_8 => ?_) (fun c_8 => absurd c_8 (by decide))
  exact hs_vret hx hb hr hlocks hK hP hD hS () [0, 1, 2, 3, 4] rfl (by decide) dX5_checkCase_84 (trivial)

set_option maxHeartbeats 4000000 in
set_option maxRecDepth 100000 in
theorem c_tellAll0 (l : Launch) (D : va_G) (k : Nat → ClassId) (sz : Nat) (ee : Nat) (ee_tape : Nat) (ee_draft : Nat) (ee_toldOnce : Int32) (ee_faultMet : Int32) (ee_place : Int32) (a_bytes : Nat) (a_kind : Int32) (a_start : Int32) (a_behind : Int32) (a_value : Int32) (t_weights : Nat) (t_kindOf : Nat) (t_light : Nat) (t_heavy : Nat) (t_seenBy : Nat) (t_seenCut : Nat) (t_seenFound : Nat) (q : Nat) (q_ahead : Nat) (q_ways : Nat) (q_size : Int32) (w : Nat → Int32) (wf : Nat → Int32)  : MI l yX5_tellAll wsX5_tellAll ({ frames := 3, cells := 0, slots := 0, locals := 69 }) D k [.ref ee, .ref q] [(ee, .inr (4, [.ref ee_tape, .ref ee_draft, .int ee_toldOnce, .int ee_faultMet, .int ee_place])), (ee_tape, .inr (3, [.ref a_bytes, .int 0, .int a_kind, .int a_start, .int a_behind, .int a_value])), (ee_draft, .inr (5, [.ref t_weights, .ref t_kindOf, .ref t_light, .ref t_heavy, .ref t_seenBy, .ref t_seenCut, .ref t_seenFound, .int 2, .int 0, .int 0, .int 0, .int 0, .int 2, .int 0, .int 0])), (t_weights, .inl (k 0, 8, .inl (w))), (q, .inr (1, [.ref q_ahead, .ref q_ways, .int q_size])), (q_ahead, .inl (k 0, 5, .inl (hsz))), (q_ways, .inl (k 0, 32, .inl (wf)))] sz (fun (r : Int32) (u : Unit) => r = 0) (fun (u : Unit) => [(ee, .inr (4, [.ref ee_tape, .ref ee_draft, .int 0, .int 0, .int 0])), (ee_tape, .inr (3, [.ref a_bytes, .int 0, .int 0, .int 0, .int 0, .int 0])), (ee_draft, .inr (5, [.ref t_weights, .ref t_kindOf, .ref t_light, .ref t_heavy, .ref t_seenBy, .ref t_seenCut, .ref t_seenFound, .int 2, .int 0, .int 0, .int 0, .int 0, .int 2, .int 0, .int 0])), (t_weights, .inl (k 0, 8, .inl (upd (upd w 0 1) 1 1))), (q, .inr (1, [.ref q_ahead, .ref q_ways, .int 2])), (q_ahead, .inl (k 0, 5, .inl (hsz))), (q_ways, .inl (k 0, 32, .inl (upd (upd (upd (upd wf 0 1) 1 1) 2 1) 3 2)))]) := by
  refine Met.ofW (cc := cX5_tellAll) (maxL := 3) (ret := (some .int)) (by decide) rfl ?_
  intro p e s m args below meth c s₁ B hml hv
  obtain ⟨rfl, hsz, hP, hK, hD0, hN⟩ := hv
  have hx := B.exec
  have hb := B.bytes
  have hr := B.returns
  have hlocks := B.notSynchronized
  have hts := atoms_spec (ws := wsX5_tellAll) B.pre
  have hown : s.vm.findClass RX5 = some m.cls := findClass_of_methodNamed B.named
  have hiX4 : ∀ w ∈ u_ws RX4 TX4 6, w ∈ wsX5_tellAll := by decide +kernel
  have hiX5 : ∀ w ∈ u_ws RX5 TX5 5, w ∈ wsX5_tellAll := by decide +kernel
  have fl21 := hts (.fieldLink RX5 21 "HalfScales$Teller" "draft" "LHalfScales$Thing;") (by decide +kernel)
  have fl28 := hts (.fieldLink RX5 28 "HalfScales$Teller" "toldOnce" "I") (by decide +kernel)
  have fl32 := hts (.fieldLink RX5 32 "HalfScales$Teller" "faultMet" "I") (by decide +kernel)
  have fl35 := hts (.fieldLink RX5 35 "HalfScales$Teller" "place" "I") (by decide +kernel)
  have fl12 := hts (.fieldLink RX5 12 "HalfScales$Teller" "tape" "LHalfScales$Tape;") (by decide +kernel)
  have fl41 := hts (.fieldLink RX5 41 "HalfScales$Tape" "kind" "I") (by decide +kernel)
  subst hsz
  have hD := hD0.self (sz := s.heap.size)
  generalize hAe : va_A [(ee, .inr (4, [.ref ee_tape, .ref ee_draft, .int ee_toldOnce, .int ee_faultMet, .int ee_place])), (ee_tape, .inr (3, [.ref a_bytes, .int 0, .int a_kind, .int a_start, .int a_behind, .int a_value])), (ee_draft, .inr (5, [.ref t_weights, .ref t_kindOf, .ref t_light, .ref t_heavy, .ref t_seenBy, .ref t_seenCut, .ref t_seenFound, .int 2, .int 0, .int 0, .int 0, .int 0, .int 2, .int 0, .int 0])), (t_weights, .inl (k 0, 8, .inl (w))), (q, .inr (1, [.ref q_ahead, .ref q_ways, .int q_size])), (q_ahead, .inl (k 0, 5, .inl (hsz))), (q_ways, .inl (k 0, 32, .inl (wf)))] s.heap.size = A at hD ⊢
  have hA : ∀ q : Nat, s.heap.size ≤ q → A q := fun q h => by rw [← hAe]; exact Or.inr h
  have hS : va_S A s.heap s.heap [] := va_S.rf
  have hl := lv_entry ([.ref ee, .ref q]) (n := 3) (Nat.le_of_ble_eq_true rfl)
  rw [lg_entry_eq]
  generalize (lg_sl ([.ref ee, .ref q]) ++ List.replicate (3 - (lg_sl ([.ref ee, .ref q])).length) Slot.unset).toArray = ls at hl ⊢
  have hl : lv_has ls 3 [(0, .ref ee), (1, .ref q)] := hl
  have hP : va_P D vwCl [(ee, .inr (4, [.ref ee_tape, .ref ee_draft, .int ee_toldOnce, .int ee_faultMet, .int ee_place])), (ee_tape, .inr (3, [.ref a_bytes, .int 0, .int a_kind, .int a_start, .int a_behind, .int a_value])), (ee_draft, .inr (5, [.ref t_weights, .ref t_kindOf, .ref t_light, .ref t_heavy, .ref t_seenBy, .ref t_seenCut, .ref t_seenFound, .int 2, .int 0, .int 0, .int 0, .int 0, .int 2, .int 0, .int 0])), (t_weights, .inl (k 0, 8, .inl (w))), (q, .inr (1, [.ref q_ahead, .ref q_ways, .int q_size])), (q_ahead, .inl (k 0, 5, .inl (hsz))), (q_ways, .inl (k 0, 32, .inl (wf)))] s.heap := hP
  refine lv_aload_n hx hb dX5_tellAll_0 rfl (lv_at hl 0 rfl) ?_
  refine va_get (D := D) (ci := 4) (v := .ref ee_draft) (C := RX5) (T := TX5) (N := 5) hx hb hts hiX5 hown hK hP 0 rfl rfl 1 (by decide) fl21 (fun _ h9 => h9) rfl dX5_tellAll_1 ?_
  refine hs_cv (va_runV (As := []) (rest := []) ⟨hx, hb, hml, hown, hts⟩ (c_begin l D k _ ee_draft t_weights t_kindOf t_light t_heavy t_seenBy t_seenCut t_seenFound 2 0 0 0 0 2 0 0 w) (cwV 0 hts gX5_tellAll_X6_begin rfl rfl rfl (by decide +kernel) ⟨Nat.le_of_ble_eq_true rfl, Nat.le_of_ble_eq_true rfl⟩) (hs_preV hK hN (hs_subP (w := [(ee_draft, .inr (5, [.ref t_weights, .ref t_kindOf, .ref t_light, .ref t_heavy, .ref t_seenBy, .ref t_seenCut, .ref t_seenFound, .int 2, .int 0, .int 0, .int 0, .int 0, .int 2, .int 0, .int 0])), (t_weights, .inl (k 0, 8, .inl (w)))]) hP [2, 3] rfl) (hD.sub (ws' := [(ee_draft, .inr (5, [.ref t_weights, .ref t_kindOf, .ref t_light, .ref t_heavy, .ref t_seenBy, .ref t_seenCut, .ref t_seenFound, .int 2, .int 0, .int 0, .int 0, .int 0, .int 2, .int 0, .int 0])), (t_weights, .inl (k 0, 8, .inl (w)))]) [2, 3] (by decide) rfl) (ci := 5) (q0 := 0) rfl rfl) rfl rfl hl.1 rfl (lv_room (Nat.le_of_ble_eq_true rfl)) dX5_tellAll_4 ⟨Nat.le_of_ble_eq_true rfl, Nat.le_of_ble_eq_true rfl⟩) hP hD hS hA [2, 3] [0, 1, 4, 5, 6] [(ee, .inr (4, [.ref ee_tape, .ref ee_draft, .int ee_toldOnce, .int ee_faultMet, .int ee_place])), (ee_tape, .inr (3, [.ref a_bytes, .int 0, .int a_kind, .int a_start, .int a_behind, .int a_value])), (q, .inr (1, [.ref q_ahead, .ref q_ways, .int q_size])), (q_ahead, .inl (k 0, 5, .inl (hsz))), (q_ways, .inl (k 0, 32, .inl (wf)))] rfl rfl (by decide) (by decide) [0, 1, 5, 6, 2, 3, 4] (fun u_3 => [(ee, .inr (4, [.ref ee_tape, .ref ee_draft, .int ee_toldOnce, .int ee_faultMet, .int ee_place])), (ee_tape, .inr (3, [.ref a_bytes, .int 0, .int a_kind, .int a_start, .int a_behind, .int a_value])), (ee_draft, .inr (5, [.ref t_weights, .ref t_kindOf, .ref t_light, .ref t_heavy, .ref t_seenBy, .ref t_seenCut, .ref t_seenFound, .int 2, .int 0, .int 0, .int 0, .int 0, .int 2, .int 0, .int 0])), (t_weights, .inl (k 0, 8, .inl (upd (upd w 0 1) 1 1))), (q, .inr (1, [.ref q_ahead, .ref q_ways, .int q_size])), (q_ahead, .inl (k 0, 5, .inl (hsz))), (q_ways, .inl (k 0, 32, .inl (wf)))]) (fun _ => rfl) (by decide) (fun u_3 H locs hw_2 hP hD hS => ?_)
  have hP : va_P D vwCl [(ee, .inr (4, [.ref ee_tape, .ref ee_draft, .int ee_toldOnce, .int ee_faultMet, .int ee_place])), (ee_tape, .inr (3, [.ref a_bytes, .int 0, .int a_kind, .int a_start, .int a_behind, .int a_value])), (ee_draft, .inr (5, [.ref t_weights, .ref t_kindOf, .ref t_light, .ref t_heavy, .ref t_seenBy, .ref t_seenCut, .ref t_seenFound, .int 2, .int 0, .int 0, .int 0, .int 0, .int 2, .int 0, .int 0])), (t_weights, .inl (k 0, 8, .inl (upd (upd w 0 1) 1 1))), (q, .inr (1, [.ref q_ahead, .ref q_ways, .int q_size])), (q_ahead, .inl (k 0, 5, .inl (hsz))), (q_ways, .inl (k 0, 32, .inl (wf)))] H := hP
  have hD : va_D A [(ee, .inr (4, [.ref ee_tape, .ref ee_draft, .int ee_toldOnce, .int ee_faultMet, .int ee_place])), (ee_tape, .inr (3, [.ref a_bytes, .int 0, .int a_kind, .int a_start, .int a_behind, .int a_value])), (ee_draft, .inr (5, [.ref t_weights, .ref t_kindOf, .ref t_light, .ref t_heavy, .ref t_seenBy, .ref t_seenCut, .ref t_seenFound, .int 2, .int 0, .int 0, .int 0, .int 0, .int 2, .int 0, .int 0])), (t_weights, .inl (k 0, 8, .inl (upd (upd w 0 1) 1 1))), (q, .inr (1, [.ref q_ahead, .ref q_ways, .int q_size])), (q_ahead, .inl (k 0, 5, .inl (hsz))), (q_ways, .inl (k 0, 32, .inl (wf)))] := hD
  refine lv_aload_n hx hb dX5_tellAll_7 rfl (lv_at hl 0 rfl) ?_
  refine lv_iconst (v := 0) hx hb dX5_tellAll_8 (by decide) ?_
  refine va_put (D := D) (ci := 4) (v := .int 0) (ty := .int) (C := RX5) (T := TX5) (N := 5) hx hb hts hiX5 tyX5 tyX5_ok nmX5 hown hK hP hD hS 0 rfl rfl 2 (by decide) fl28 (fun _ h9 => h9) rfl (by decide +kernel) rfl rfl (Nat.le_of_ble_eq_true rfl) dX5_tellAll_9 (fun H locs hP hD hS => ?_)
  have hP : va_P D vwCl [(ee, .inr (4, [.ref ee_tape, .ref ee_draft, .int 0, .int ee_faultMet, .int ee_place])), (ee_tape, .inr (3, [.ref a_bytes, .int 0, .int a_kind, .int a_start, .int a_behind, .int a_value])), (ee_draft, .inr (5, [.ref t_weights, .ref t_kindOf, .ref t_light, .ref t_heavy, .ref t_seenBy, .ref t_seenCut, .ref t_seenFound, .int 2, .int 0, .int 0, .int 0, .int 0, .int 2, .int 0, .int 0])), (t_weights, .inl (k 0, 8, .inl (upd (upd w 0 1) 1 1))), (q, .inr (1, [.ref q_ahead, .ref q_ways, .int q_size])), (q_ahead, .inl (k 0, 5, .inl (hsz))), (q_ways, .inl (k 0, 32, .inl (wf)))] H := hP
  have hD : va_D A [(ee, .inr (4, [.ref ee_tape, .ref ee_draft, .int 0, .int ee_faultMet, .int ee_place])), (ee_tape, .inr (3, [.ref a_bytes, .int 0, .int a_kind, .int a_start, .int a_behind, .int a_value])), (ee_draft, .inr (5, [.ref t_weights, .ref t_kindOf, .ref t_light, .ref t_heavy, .ref t_seenBy, .ref t_seenCut, .ref t_seenFound, .int 2, .int 0, .int 0, .int 0, .int 0, .int 2, .int 0, .int 0])), (t_weights, .inl (k 0, 8, .inl (upd (upd w 0 1) 1 1))), (q, .inr (1, [.ref q_ahead, .ref q_ways, .int q_size])), (q_ahead, .inl (k 0, 5, .inl (hsz))), (q_ways, .inl (k 0, 32, .inl (wf)))] := hD
  refine lv_aload_n hx hb dX5_tellAll_12 rfl (lv_at hl 0 rfl) ?_
  refine lv_iconst (v := 0) hx hb dX5_tellAll_13 (by decide) ?_
  refine va_put (D := D) (ci := 4) (v := .int 0) (ty := .int) (C := RX5) (T := TX5) (N := 5) hx hb hts hiX5 tyX5 tyX5_ok nmX5 hown hK hP hD hS 0 rfl rfl 3 (by decide) fl32 (fun _ h9 => h9) rfl (by decide +kernel) rfl rfl (Nat.le_of_ble_eq_true rfl) dX5_tellAll_14 (fun H locs hP hD hS => ?_)
  have hP : va_P D vwCl [(ee, .inr (4, [.ref ee_tape, .ref ee_draft, .int 0, .int 0, .int ee_place])), (ee_tape, .inr (3, [.ref a_bytes, .int 0, .int a_kind, .int a_start, .int a_behind, .int a_value])), (ee_draft, .inr (5, [.ref t_weights, .ref t_kindOf, .ref t_light, .ref t_heavy, .ref t_seenBy, .ref t_seenCut, .ref t_seenFound, .int 2, .int 0, .int 0, .int 0, .int 0, .int 2, .int 0, .int 0])), (t_weights, .inl (k 0, 8, .inl (upd (upd w 0 1) 1 1))), (q, .inr (1, [.ref q_ahead, .ref q_ways, .int q_size])), (q_ahead, .inl (k 0, 5, .inl (hsz))), (q_ways, .inl (k 0, 32, .inl (wf)))] H := hP
  have hD : va_D A [(ee, .inr (4, [.ref ee_tape, .ref ee_draft, .int 0, .int 0, .int ee_place])), (ee_tape, .inr (3, [.ref a_bytes, .int 0, .int a_kind, .int a_start, .int a_behind, .int a_value])), (ee_draft, .inr (5, [.ref t_weights, .ref t_kindOf, .ref t_light, .ref t_heavy, .ref t_seenBy, .ref t_seenCut, .ref t_seenFound, .int 2, .int 0, .int 0, .int 0, .int 0, .int 2, .int 0, .int 0])), (t_weights, .inl (k 0, 8, .inl (upd (upd w 0 1) 1 1))), (q, .inr (1, [.ref q_ahead, .ref q_ways, .int q_size])), (q_ahead, .inl (k 0, 5, .inl (hsz))), (q_ways, .inl (k 0, 32, .inl (wf)))] := hD
  refine lv_aload_n hx hb dX5_tellAll_17 rfl (lv_at hl 0 rfl) ?_
  refine lv_iconst (v := 0) hx hb dX5_tellAll_18 (by decide) ?_
  refine va_put (D := D) (ci := 4) (v := .int 0) (ty := .int) (C := RX5) (T := TX5) (N := 5) hx hb hts hiX5 tyX5 tyX5_ok nmX5 hown hK hP hD hS 0 rfl rfl 4 (by decide) fl35 (fun _ h9 => h9) rfl (by decide +kernel) rfl rfl (Nat.le_of_ble_eq_true rfl) dX5_tellAll_19 (fun H locs hP hD hS => ?_)
  have hP : va_P D vwCl [(ee, .inr (4, [.ref ee_tape, .ref ee_draft, .int 0, .int 0, .int 0])), (ee_tape, .inr (3, [.ref a_bytes, .int 0, .int a_kind, .int a_start, .int a_behind, .int a_value])), (ee_draft, .inr (5, [.ref t_weights, .ref t_kindOf, .ref t_light, .ref t_heavy, .ref t_seenBy, .ref t_seenCut, .ref t_seenFound, .int 2, .int 0, .int 0, .int 0, .int 0, .int 2, .int 0, .int 0])), (t_weights, .inl (k 0, 8, .inl (upd (upd w 0 1) 1 1))), (q, .inr (1, [.ref q_ahead, .ref q_ways, .int q_size])), (q_ahead, .inl (k 0, 5, .inl (hsz))), (q_ways, .inl (k 0, 32, .inl (wf)))] H := hP
  have hD : va_D A [(ee, .inr (4, [.ref ee_tape, .ref ee_draft, .int 0, .int 0, .int 0])), (ee_tape, .inr (3, [.ref a_bytes, .int 0, .int a_kind, .int a_start, .int a_behind, .int a_value])), (ee_draft, .inr (5, [.ref t_weights, .ref t_kindOf, .ref t_light, .ref t_heavy, .ref t_seenBy, .ref t_seenCut, .ref t_seenFound, .int 2, .int 0, .int 0, .int 0, .int 0, .int 2, .int 0, .int 0])), (t_weights, .inl (k 0, 8, .inl (upd (upd w 0 1) 1 1))), (q, .inr (1, [.ref q_ahead, .ref q_ways, .int q_size])), (q_ahead, .inl (k 0, 5, .inl (hsz))), (q_ways, .inl (k 0, 32, .inl (wf)))] := hD
  refine lv_aload_n hx hb dX5_tellAll_22 rfl (lv_at hl 0 rfl) ?_
  refine va_get (D := D) (ci := 4) (v := .ref ee_tape) (C := RX5) (T := TX5) (N := 5) hx hb hts hiX5 hown hK hP 0 rfl rfl 0 (by decide) fl12 (fun _ h9 => h9) rfl dX5_tellAll_23 ?_
  refine hs_cv (va_runV (As := []) (rest := []) ⟨hx, hb, hml, hown, hts⟩ (c_restart0 l D k _ ee_tape a_bytes a_kind a_start a_behind a_value) (cwV 0 hts gX5_tellAll_X4_restart rfl rfl rfl (by decide +kernel) ⟨Nat.le_of_ble_eq_true rfl, Nat.le_of_ble_eq_true rfl⟩) (hs_preV hK hN (hs_subP (w := [(ee_tape, .inr (3, [.ref a_bytes, .int 0, .int a_kind, .int a_start, .int a_behind, .int a_value]))]) hP [1] rfl) (hD.sub (ws' := [(ee_tape, .inr (3, [.ref a_bytes, .int 0, .int a_kind, .int a_start, .int a_behind, .int a_value]))]) [1] (by decide) rfl) (ci := 3) (q0 := 0) rfl rfl) rfl rfl hl.1 rfl (lv_room (Nat.le_of_ble_eq_true rfl)) dX5_tellAll_26 ⟨Nat.le_of_ble_eq_true rfl, Nat.le_of_ble_eq_true rfl⟩) hP hD hS hA [1] [0, 2, 3, 4, 5, 6] [(ee, .inr (4, [.ref ee_tape, .ref ee_draft, .int 0, .int 0, .int 0])), (ee_draft, .inr (5, [.ref t_weights, .ref t_kindOf, .ref t_light, .ref t_heavy, .ref t_seenBy, .ref t_seenCut, .ref t_seenFound, .int 2, .int 0, .int 0, .int 0, .int 0, .int 2, .int 0, .int 0])), (t_weights, .inl (k 0, 8, .inl (upd (upd w 0 1) 1 1))), (q, .inr (1, [.ref q_ahead, .ref q_ways, .int q_size])), (q_ahead, .inl (k 0, 5, .inl (hsz))), (q_ways, .inl (k 0, 32, .inl (wf)))] rfl rfl (by decide) (by decide) [0, 6, 1, 2, 3, 4, 5] (fun u_6 => [(ee, .inr (4, [.ref ee_tape, .ref ee_draft, .int 0, .int 0, .int 0])), (ee_tape, .inr (3, [.ref a_bytes, .int 0, .int 0, .int 0, .int 0, .int 0])), (ee_draft, .inr (5, [.ref t_weights, .ref t_kindOf, .ref t_light, .ref t_heavy, .ref t_seenBy, .ref t_seenCut, .ref t_seenFound, .int 2, .int 0, .int 0, .int 0, .int 0, .int 2, .int 0, .int 0])), (t_weights, .inl (k 0, 8, .inl (upd (upd w 0 1) 1 1))), (q, .inr (1, [.ref q_ahead, .ref q_ways, .int q_size])), (q_ahead, .inl (k 0, 5, .inl (hsz))), (q_ways, .inl (k 0, 32, .inl (wf)))]) (fun _ => rfl) (by decide) (fun u_6 H locs hw_5 hP hD hS => ?_)
  have hP : va_P D vwCl [(ee, .inr (4, [.ref ee_tape, .ref ee_draft, .int 0, .int 0, .int 0])), (ee_tape, .inr (3, [.ref a_bytes, .int 0, .int 0, .int 0, .int 0, .int 0])), (ee_draft, .inr (5, [.ref t_weights, .ref t_kindOf, .ref t_light, .ref t_heavy, .ref t_seenBy, .ref t_seenCut, .ref t_seenFound, .int 2, .int 0, .int 0, .int 0, .int 0, .int 2, .int 0, .int 0])), (t_weights, .inl (k 0, 8, .inl (upd (upd w 0 1) 1 1))), (q, .inr (1, [.ref q_ahead, .ref q_ways, .int q_size])), (q_ahead, .inl (k 0, 5, .inl (hsz))), (q_ways, .inl (k 0, 32, .inl (wf)))] H := hP
  have hD : va_D A [(ee, .inr (4, [.ref ee_tape, .ref ee_draft, .int 0, .int 0, .int 0])), (ee_tape, .inr (3, [.ref a_bytes, .int 0, .int 0, .int 0, .int 0, .int 0])), (ee_draft, .inr (5, [.ref t_weights, .ref t_kindOf, .ref t_light, .ref t_heavy, .ref t_seenBy, .ref t_seenCut, .ref t_seenFound, .int 2, .int 0, .int 0, .int 0, .int 0, .int 2, .int 0, .int 0])), (t_weights, .inl (k 0, 8, .inl (upd (upd w 0 1) 1 1))), (q, .inr (1, [.ref q_ahead, .ref q_ways, .int q_size])), (q_ahead, .inl (k 0, 5, .inl (hsz))), (q_ways, .inl (k 0, 32, .inl (wf)))] := hD
  refine lv_iconst (v := 0) hx hb dX5_tellAll_29 (by decide) ?_
  refine lv_istore_n (lv' := [(2, .int 0), (0, .ref ee), (1, .ref q)]) hx hb dX5_tellAll_30 rfl hl (by decide) rfl (fun ls hl => ?_)
  refine lv_iload_n hx hb dX5_tellAll_31 rfl (lv_at hl 0 rfl) ?_
  refine lv_sipush (v := 160) hx hb dX5_tellAll_32 (by decide) ?_
  refine lv_icmp_ge (tgt := 65) hx hb dX5_tellAll_35 (by decide) (fun c_7 => absurd c_7 (by decide)) (fun c_7 => ?_)
  refine lv_aload_n hx hb dX5_tellAll_38 rfl (lv_at hl 1 rfl) ?_
  refine va_get (D := D) (ci := 4) (v := .int 0) (C := RX5) (T := TX5) (N := 5) hx hb hts hiX5 hown hK hP 0 rfl rfl 3 (by decide) fl32 (fun _ h9 => h9) rfl dX5_tellAll_39 ?_
  refine lv_if_ne (tgt := 65) hx hb dX5_tellAll_42 (by decide) (fun c_8 => absurd c_8 (by decide)) (fun c_8 => ?_)
  refine lv_aload_n hx hb dX5_tellAll_45 rfl (lv_at hl 1 rfl) ?_
  refine va_get (D := D) (ci := 4) (v := .ref ee_tape) (C := RX5) (T := TX5) (N := 5) hx hb hts hiX5 hown hK hP 0 rfl rfl 0 (by decide) fl12 (fun _ h9 => h9) rfl dX5_tellAll_46 ?_
  refine va_get (D := D) (ci := 3) (v := .int 0) (C := RX4) (T := TX4) (N := 6) hx hb hts hiX4 hown hK hP 1 rfl rfl 2 (by decide) fl41 (fun _ h9 => h9) rfl dX5_tellAll_49 ?_
  refine lv_if_eq (tgt := 65) hx hb dX5_tellAll_52 (by decide) (fun c_9 => ?_) (fun c_9 => absurd c_9 (by decide))
  refine lv_aload_n hx hb dX5_tellAll_65 rfl (lv_at hl 1 rfl) ?_
  refine va_get (D := D) (ci := 4) (v := .int 0) (C := RX5) (T := TX5) (N := 5) hx hb hts hiX5 hown hK hP 0 rfl rfl 3 (by decide) fl32 (fun _ h9 => h9) rfl dX5_tellAll_66 ?_
  refine lv_if_ne (tgt := 77) hx hb dX5_tellAll_69 (by decide) (fun c_10 => absurd c_10 (by decide)) (fun c_10 => ?_)
  refine lv_aload_n hx hb dX5_tellAll_72 rfl (lv_at hl 1 rfl) ?_
  refine lv_aload_n hx hb dX5_tellAll_73 rfl (lv_at hl 2 rfl) ?_
  refine hs_cv (va_runV (As := [.ref q]) (rest := []) ⟨hx, hb, hml, hown, hts⟩ (c_checkCase0 l D k _ ee ee_tape ee_draft 0 0 q q_ahead q_ways q_size t_weights t_kindOf t_light t_heavy t_seenBy t_seenCut t_seenFound wf) (cwV 1 hts gX5_tellAll_X5_checkCase rfl rfl rfl (by decide +kernel) ⟨Nat.le_of_ble_eq_true rfl, Nat.le_of_ble_eq_true rfl⟩) (hs_preV hK hN (hs_subP (w := [(ee, .inr (4, [.ref ee_tape, .ref ee_draft, .int 0, .int 0, .int 0])), (ee_draft, .inr (5, [.ref t_weights, .ref t_kindOf, .ref t_light, .ref t_heavy, .ref t_seenBy, .ref t_seenCut, .ref t_seenFound, .int 2, .int 0, .int 0, .int 0, .int 0, .int 2, .int 0, .int 0])), (q, .inr (1, [.ref q_ahead, .ref q_ways, .int q_size])), (q_ahead, .inl (k 0, 5, .inl (hsz))), (q_ways, .inl (k 0, 32, .inl (wf)))]) hP [0, 2, 4, 5, 6] rfl) (hD.sub (ws' := [(ee, .inr (4, [.ref ee_tape, .ref ee_draft, .int 0, .int 0, .int 0])), (ee_draft, .inr (5, [.ref t_weights, .ref t_kindOf, .ref t_light, .ref t_heavy, .ref t_seenBy, .ref t_seenCut, .ref t_seenFound, .int 2, .int 0, .int 0, .int 0, .int 0, .int 2, .int 0, .int 0])), (q, .inr (1, [.ref q_ahead, .ref q_ways, .int q_size])), (q_ahead, .inl (k 0, 5, .inl (hsz))), (q_ways, .inl (k 0, 32, .inl (wf)))]) [0, 2, 4, 5, 6] (by decide) rfl) (ci := 4) (q0 := 0) rfl rfl) rfl rfl hl.1 rfl (lv_room (Nat.le_of_ble_eq_true rfl)) dX5_tellAll_74 ⟨Nat.le_of_ble_eq_true rfl, Nat.le_of_ble_eq_true rfl⟩) hP hD hS hA [0, 2, 4, 5, 6] [1, 3] [(ee_tape, .inr (3, [.ref a_bytes, .int 0, .int 0, .int 0, .int 0, .int 0])), (t_weights, .inl (k 0, 8, .inl (upd (upd w 0 1) 1 1)))] rfl rfl (by decide) (by decide) [2, 0, 3, 1, 4, 5, 6] (fun u_13 => [(ee, .inr (4, [.ref ee_tape, .ref ee_draft, .int 0, .int 0, .int 0])), (ee_tape, .inr (3, [.ref a_bytes, .int 0, .int 0, .int 0, .int 0, .int 0])), (ee_draft, .inr (5, [.ref t_weights, .ref t_kindOf, .ref t_light, .ref t_heavy, .ref t_seenBy, .ref t_seenCut, .ref t_seenFound, .int 2, .int 0, .int 0, .int 0, .int 0, .int 2, .int 0, .int 0])), (t_weights, .inl (k 0, 8, .inl (upd (upd w 0 1) 1 1))), (q, .inr (1, [.ref q_ahead, .ref q_ways, .int 2])), (q_ahead, .inl (k 0, 5, .inl (hsz))), (q_ways, .inl (k 0, 32, .inl (upd (upd (upd (upd wf 0 1) 1 1) 2 1) 3 2)))]) (fun _ => rfl) (by decide) (fun u_13 H locs hw_12 hP hD hS => ?_)
  have hP : va_P D vwCl [(ee, .inr (4, [.ref ee_tape, .ref ee_draft, .int 0, .int 0, .int 0])), (ee_tape, .inr (3, [.ref a_bytes, .int 0, .int 0, .int 0, .int 0, .int 0])), (ee_draft, .inr (5, [.ref t_weights, .ref t_kindOf, .ref t_light, .ref t_heavy, .ref t_seenBy, .ref t_seenCut, .ref t_seenFound, .int 2, .int 0, .int 0, .int 0, .int 0, .int 2, .int 0, .int 0])), (t_weights, .inl (k 0, 8, .inl (upd (upd w 0 1) 1 1))), (q, .inr (1, [.ref q_ahead, .ref q_ways, .int 2])), (q_ahead, .inl (k 0, 5, .inl (hsz))), (q_ways, .inl (k 0, 32, .inl (upd (upd (upd (upd wf 0 1) 1 1) 2 1) 3 2)))] H := hP
  have hD : va_D A [(ee, .inr (4, [.ref ee_tape, .ref ee_draft, .int 0, .int 0, .int 0])), (ee_tape, .inr (3, [.ref a_bytes, .int 0, .int 0, .int 0, .int 0, .int 0])), (ee_draft, .inr (5, [.ref t_weights, .ref t_kindOf, .ref t_light, .ref t_heavy, .ref t_seenBy, .ref t_seenCut, .ref t_seenFound, .int 2, .int 0, .int 0, .int 0, .int 0, .int 2, .int 0, .int 0])), (t_weights, .inl (k 0, 8, .inl (upd (upd w 0 1) 1 1))), (q, .inr (1, [.ref q_ahead, .ref q_ways, .int 2])), (q_ahead, .inl (k 0, 5, .inl (hsz))), (q_ways, .inl (k 0, 32, .inl (upd (upd (upd (upd wf 0 1) 1 1) 2 1) 3 2)))] := hD
  refine lv_iload_n hx hb dX5_tellAll_77 rfl (lv_at hl 0 rfl) ?_
  exact hs_iret hx hb hr hlocks hK hP hD hS () [0, 1, 2, 3, 4, 5, 6] rfl (by decide) dX5_tellAll_78 (rfl)
