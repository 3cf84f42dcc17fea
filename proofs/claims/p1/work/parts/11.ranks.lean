set_option maxHeartbeats 4000000 in
set_option maxRecDepth 100000 in
theorem c_mayCome (l : Launch) (D : va_G) (k : Nat → ClassId) (sz : Nat) (q : Nat) (q_ahead : Nat) (q_ways : Nat) (q_size : Int32) (h : Int32) (pl : Int32) (af : Nat → Int32) (hh : vp_in h 5) : MI l yX2_mayCome wsX2_mayCome ({ frames := 0, cells := 0, slots := 0, locals := 0 }) D k [.ref q, .int h, .int pl] [(q, .inr (1, [.ref q_ahead, .ref q_ways, .int q_size])), (q_ahead, .inl (k 0, 5, .inl (af)))] sz (fun (r : Int32) (u : Unit) => r = hsb (decide (af h.toNatClampNeg &&& (pl ^^^ (-1)) = 0))) (fun (u : Unit) => [(q, .inr (1, [.ref q_ahead, .ref q_ways, .int q_size])), (q_ahead, .inl (k 0, 5, .inl (af)))]) := by
  refine Met.ofW (cc := cX2_mayCome) (maxL := 3) (ret := (some .boolean)) (by decide) rfl ?_
  intro p e s m args below meth c s₁ B hml hv
  obtain ⟨rfl, hsz, hP, hK, hD0, hN⟩ := hv
  have hx := B.exec
  have hb := B.bytes
  have hr := B.returns
  have hlocks := B.notSynchronized
  have hts := atoms_spec (ws := wsX2_mayCome) B.pre
  have hown : s.vm.findClass RX2 = some m.cls := findClass_of_methodNamed B.named
  have hiX2 : ∀ w ∈ u_ws RX2 TX2 3, w ∈ wsX2_mayCome := by decide +kernel
  have fl9 := hts (.fieldLink RX2 9 "HalfScales$Ranks" "ahead" "[I") (by decide +kernel)
  subst hsz
  have hD := hD0.self (sz := s.heap.size)
  generalize hAe : va_A [(q, .inr (1, [.ref q_ahead, .ref q_ways, .int q_size])), (q_ahead, .inl (k 0, 5, .inl (af)))] s.heap.size = A at hD ⊢
  have hA : ∀ q : Nat, s.heap.size ≤ q → A q := fun q h => by rw [← hAe]; exact Or.inr h
  have hS : va_S A s.heap s.heap [] := va_S.rf
  have hl := lv_entry ([.ref q, .int h, .int pl]) (n := 3) (Nat.le_of_ble_eq_true rfl)
  rw [lg_entry_eq]
  generalize (lg_sl ([.ref q, .int h, .int pl]) ++ List.replicate (3 - (lg_sl ([.ref q, .int h, .int pl])).length) Slot.unset).toArray = ls at hl ⊢
  have hl : lv_has ls 3 [(0, .ref q), (1, .int h), (2, .int pl)] := hl
  have hP : va_P D vwCl [(q, .inr (1, [.ref q_ahead, .ref q_ways, .int q_size])), (q_ahead, .inl (k 0, 5, .inl (af)))] s.heap := hP
  refine lv_aload_n hx hb dX2_mayCome_0 rfl (lv_at hl 0 rfl) ?_
  refine va_get (D := D) (ci := 1) (v := .ref q_ahead) (C := RX2) (T := TX2) (N := 3) hx hb hts hiX2 hown hK hP 0 rfl rfl 0 (by decide) fl9 (fun _ h9 => h9) rfl dX2_mayCome_1 ?_
  refine lv_iload_n hx hb dX2_mayCome_4 rfl (lv_at hl 1 rfl) ?_
  refine va_iald hx hb hK hP 1 0 rfl rfl hh dX2_mayCome_5 ?_
  refine lv_iload_n hx hb dX2_mayCome_6 rfl (lv_at hl 2 rfl) ?_
  refine lv_iconst (v := (-1)) hx hb dX2_mayCome_7 (by decide) ?_
  refine lv_ixor hx hb dX2_mayCome_8 ?_
  refine lv_iand hx hb dX2_mayCome_9 ?_
  refine lv_if_ne (tgt := 17) hx hb dX2_mayCome_10 (by decide) (fun c_1 => ?_) (fun c_1 => ?_)
  · refine lv_iconst (v := 0) hx hb dX2_mayCome_17 (by decide) ?_
    exact hs_zret hx hb hr hlocks hK hP hD hS () [0, 1] rfl (by decide) dX2_mayCome_18 rfl ((congrArg hsb (decide_eq_false c_1)).symm)
  · refine lv_iconst (v := 1) hx hb dX2_mayCome_13 (by decide) ?_
    refine lv_goto (tgt := 18) hx hb dX2_mayCome_14 (by decide) ?_
    exact hs_zret hx hb hr hlocks hK hP hD hS () [0, 1] rfl (by decide) dX2_mayCome_18 rfl ((congrArg hsb (decide_eq_true c_1)).symm)

set_option maxHeartbeats 4000000 in
set_option maxRecDepth 100000 in
theorem c_learn0 (l : Launch) (D : va_G) (k : Nat → ClassId) (sz : Nat) (q : Nat) (q_ahead : Nat) (q_ways : Nat) (q_size : Int32) (t : Nat) (t_weights : Nat) (t_kindOf : Nat) (t_light : Nat) (t_heavy : Nat) (t_seenBy : Nat) (t_seenCut : Nat) (t_seenFound : Nat)  : MV l yX2_learn wsX2_learn ({ frames := 0, cells := 0, slots := 0, locals := 0 }) D k [.ref q, .ref t] [(q, .inr (1, [.ref q_ahead, .ref q_ways, .int q_size])), (q_ahead, .inl (k 0, 5, .inl (hsz))), (t, .inr (5, [.ref t_weights, .ref t_kindOf, .ref t_light, .ref t_heavy, .ref t_seenBy, .ref t_seenCut, .ref t_seenFound, .int 2, .int 0, .int 0, .int 0, .int 0, .int 2, .int 0, .int 0]))] sz (fun (u : Unit) => True) (fun (u : Unit) => [(q, .inr (1, [.ref q_ahead, .ref q_ways, .int 2])), (q_ahead, .inl (k 0, 5, .inl (hsz))), (t, .inr (5, [.ref t_weights, .ref t_kindOf, .ref t_light, .ref t_heavy, .ref t_seenBy, .ref t_seenCut, .ref t_seenFound, .int 2, .int 0, .int 0, .int 0, .int 0, .int 2, .int 0, .int 0]))]) := by
  refine Met.ofW (cc := cX2_learn) (maxL := 3) (ret := none) (by decide) rfl ?_
  intro p e s m args below meth c s₁ B hml hv
  obtain ⟨rfl, hsz, hP, hK, hD0, hN⟩ := hv
  have hx := B.exec
  have hb := B.bytes
  have hr := B.returns
  have hlocks := B.notSynchronized
  have hts := atoms_spec (ws := wsX2_learn) B.pre
  have hown : s.vm.findClass RX2 = some m.cls := findClass_of_methodNamed B.named
  have hiX2 : ∀ w ∈ u_ws RX2 TX2 3, w ∈ wsX2_learn := by decide +kernel
  have hiX6 : ∀ w ∈ u_ws RX6 TX6 15, w ∈ wsX2_learn := by decide +kernel
  have fl18 := hts (.fieldLink RX2 18 "HalfScales$Thing" "halfCount" "I") (by decide +kernel)
  have fl24 := hts (.fieldLink RX2 24 "HalfScales$Ranks" "size" "I") (by decide +kernel)
  have fl9 := hts (.fieldLink RX2 9 "HalfScales$Ranks" "ahead" "[I") (by decide +kernel)
  have fl27 := hts (.fieldLink RX2 27 "HalfScales$Thing" "pairCount" "I") (by decide +kernel)
  subst hsz
  have hD := hD0.self (sz := s.heap.size)
  generalize hAe : va_A [(q, .inr (1, [.ref q_ahead, .ref q_ways, .int q_size])), (q_ahead, .inl (k 0, 5, .inl (hsz))), (t, .inr (5, [.ref t_weights, .ref t_kindOf, .ref t_light, .ref t_heavy, .ref t_seenBy, .ref t_seenCut, .ref t_seenFound, .int 2, .int 0, .int 0, .int 0, .int 0, .int 2, .int 0, .int 0]))] s.heap.size = A at hD ⊢
  have hA : ∀ q : Nat, s.heap.size ≤ q → A q := fun q h => by rw [← hAe]; exact Or.inr h
  have hS : va_S A s.heap s.heap [] := va_S.rf
  have hl := lv_entry ([.ref q, .ref t]) (n := 3) (Nat.le_of_ble_eq_true rfl)
  rw [lg_entry_eq]
  generalize (lg_sl ([.ref q, .ref t]) ++ List.replicate (3 - (lg_sl ([.ref q, .ref t])).length) Slot.unset).toArray = ls at hl ⊢
  have hl : lv_has ls 3 [(0, .ref q), (1, .ref t)] := hl
  have hP : va_P D vwCl [(q, .inr (1, [.ref q_ahead, .ref q_ways, .int q_size])), (q_ahead, .inl (k 0, 5, .inl (hsz))), (t, .inr (5, [.ref t_weights, .ref t_kindOf, .ref t_light, .ref t_heavy, .ref t_seenBy, .ref t_seenCut, .ref t_seenFound, .int 2, .int 0, .int 0, .int 0, .int 0, .int 2, .int 0, .int 0]))] s.heap := hP
  refine lv_aload_n hx hb dX2_learn_0 rfl (lv_at hl 0 rfl) ?_
  refine lv_aload_n hx hb dX2_learn_1 rfl (lv_at hl 1 rfl) ?_
  refine va_get (D := D) (ci := 5) (v := .int 2) (C := RX6) (T := TX6) (N := 15) hx hb hts hiX6 hown hK hP 2 rfl rfl 12 (by decide) fl18 (fun _ h9 => h9) rfl dX2_learn_2 ?_
  refine va_put (D := D) (ci := 1) (v := .int 2) (ty := .int) (C := RX2) (T := TX2) (N := 3) hx hb hts hiX2 tyX2 tyX2_ok nmX2 hown hK hP hD hS 0 rfl rfl 2 (by decide) fl24 (fun _ h9 => h9) rfl (by decide +kernel) rfl rfl (Nat.le_of_ble_eq_true rfl) dX2_learn_5 (fun H locs hP hD hS => ?_)
  have hP : va_P D vwCl [(q, .inr (1, [.ref q_ahead, .ref q_ways, .int 2])), (q_ahead, .inl (k 0, 5, .inl (hsz))), (t, .inr (5, [.ref t_weights, .ref t_kindOf, .ref t_light, .ref t_heavy, .ref t_seenBy, .ref t_seenCut, .ref t_seenFound, .int 2, .int 0, .int 0, .int 0, .int 0, .int 2, .int 0, .int 0]))] H := hP
  have hD : va_D A [(q, .inr (1, [.ref q_ahead, .ref q_ways, .int 2])), (q_ahead, .inl (k 0, 5, .inl (hsz))), (t, .inr (5, [.ref t_weights, .ref t_kindOf, .ref t_light, .ref t_heavy, .ref t_seenBy, .ref t_seenCut, .ref t_seenFound, .int 2, .int 0, .int 0, .int 0, .int 0, .int 2, .int 0, .int 0]))] := hD
  refine lv_iconst (v := 0) hx hb dX2_learn_8 (by decide) ?_
  refine lv_istore_n (lv' := [(2, .int 0), (0, .ref q), (1, .ref t)]) hx hb dX2_learn_9 rfl hl (by decide) rfl (fun ls hl => ?_)
  refine lv_iload_n hx hb dX2_learn_10 rfl (lv_at hl 0 rfl) ?_
  refine lv_iconst (v := 5) hx hb dX2_learn_11 (by decide) ?_
  refine lv_icmp_ge (tgt := 28) hx hb dX2_learn_12 (by decide) (fun c_1 => absurd c_1 (by decide)) (fun c_1 => ?_)
  refine lv_aload_n hx hb dX2_learn_15 rfl (lv_at hl 1 rfl) ?_
  refine va_get (D := D) (ci := 1) (v := .ref q_ahead) (C := RX2) (T := TX2) (N := 3) hx hb hts hiX2 hown hK hP 0 rfl rfl 0 (by decide) fl9 (fun _ h9 => h9) rfl dX2_learn_16 ?_
  refine lv_iload_n hx hb dX2_learn_19 rfl (lv_at hl 0 rfl) ?_
  refine lv_iconst (v := 0) hx hb dX2_learn_20 (by decide) ?_
  refine va_iast hx hb hK hP hD hS 1 0 rfl rfl (hs_in (by decide)) dX2_learn_21 (fun H locs hP hD hS => ?_)
  have hE : upd hsz 0 0 = hsz := hs_uz 0
  have hP : va_P D vwCl [(q, .inr (1, [.ref q_ahead, .ref q_ways, .int 2])), (q_ahead, .inl (k 0, 5, .inl (upd hsz 0 0))), (t, .inr (5, [.ref t_weights, .ref t_kindOf, .ref t_light, .ref t_heavy, .ref t_seenBy, .ref t_seenCut, .ref t_seenFound, .int 2, .int 0, .int 0, .int 0, .int 0, .int 2, .int 0, .int 0]))] H := hP
  have hD : va_D A [(q, .inr (1, [.ref q_ahead, .ref q_ways, .int 2])), (q_ahead, .inl (k 0, 5, .inl (upd hsz 0 0))), (t, .inr (5, [.ref t_weights, .ref t_kindOf, .ref t_light, .ref t_heavy, .ref t_seenBy, .ref t_seenCut, .ref t_seenFound, .int 2, .int 0, .int 0, .int 0, .int 0, .int 2, .int 0, .int 0]))] := hD
  rw [hE] at hP hD
  refine lv_iinc (v := 1) (lv' := [(2, .int 1), (0, .ref q), (1, .ref t)]) hx hb dX2_learn_22 hl (k := 0) rfl (by decide) (by decide) rfl (fun ls hl => ?_)
  refine lv_goto (tgt := 10) hx hb dX2_learn_25 (by decide) ?_
  refine lv_iload_n hx hb dX2_learn_10 rfl (lv_at hl 0 rfl) ?_
  refine lv_iconst (v := 5) hx hb dX2_learn_11 (by decide) ?_
  refine lv_icmp_ge (tgt := 28) hx hb dX2_learn_12 (by decide) (fun c_2 => absurd c_2 (by decide)) (fun c_2 => ?_)
  refine lv_aload_n hx hb dX2_learn_15 rfl (lv_at hl 1 rfl) ?_
  refine va_get (D := D) (ci := 1) (v := .ref q_ahead) (C := RX2) (T := TX2) (N := 3) hx hb hts hiX2 hown hK hP 0 rfl rfl 0 (by decide) fl9 (fun _ h9 => h9) rfl dX2_learn_16 ?_
  refine lv_iload_n hx hb dX2_learn_19 rfl (lv_at hl 0 rfl) ?_
  refine lv_iconst (v := 0) hx hb dX2_learn_20 (by decide) ?_
  refine va_iast hx hb hK hP hD hS 1 0 rfl rfl (hs_in (by decide)) dX2_learn_21 (fun H locs hP hD hS => ?_)
  have hE : upd hsz 1 0 = hsz := hs_uz 1
  have hP : va_P D vwCl [(q, .inr (1, [.ref q_ahead, .ref q_ways, .int 2])), (q_ahead, .inl (k 0, 5, .inl (upd hsz 1 0))), (t, .inr (5, [.ref t_weights, .ref t_kindOf, .ref t_light, .ref t_heavy, .ref t_seenBy, .ref t_seenCut, .ref t_seenFound, .int 2, .int 0, .int 0, .int 0, .int 0, .int 2, .int 0, .int 0]))] H := hP
  have hD : va_D A [(q, .inr (1, [.ref q_ahead, .ref q_ways, .int 2])), (q_ahead, .inl (k 0, 5, .inl (upd hsz 1 0))), (t, .inr (5, [.ref t_weights, .ref t_kindOf, .ref t_light, .ref t_heavy, .ref t_seenBy, .ref t_seenCut, .ref t_seenFound, .int 2, .int 0, .int 0, .int 0, .int 0, .int 2, .int 0, .int 0]))] := hD
  rw [hE] at hP hD
  refine lv_iinc (v := 2) (lv' := [(2, .int 2), (0, .ref q), (1, .ref t)]) hx hb dX2_learn_22 hl (k := 0) rfl (by decide) (by decide) rfl (fun ls hl => ?_)
  refine lv_goto (tgt := 10) hx hb dX2_learn_25 (by decide) ?_
  refine lv_iload_n hx hb dX2_learn_10 rfl (lv_at hl 0 rfl) ?_
  refine lv_iconst (v := 5) hx hb dX2_learn_11 (by decide) ?_
  refine lv_icmp_ge (tgt := 28) hx hb dX2_learn_12 (by decide) (fun c_3 => absurd c_3 (by decide)) (fun c_3 => ?_)
  refine lv_aload_n hx hb dX2_learn_15 rfl (lv_at hl 1 rfl) ?_
  refine va_get (D := D) (ci := 1) (v := .ref q_ahead) (C := RX2) (T := TX2) (N := 3) hx hb hts hiX2 hown hK hP 0 rfl rfl 0 (by decide) fl9 (fun _ h9 => h9) rfl dX2_learn_16 ?_
  refine lv_iload_n hx hb dX2_learn_19 rfl (lv_at hl 0 rfl) ?_
  refine lv_iconst (v := 0) hx hb dX2_learn_20 (by decide) ?_
  refine va_iast hx hb hK hP hD hS 1 0 rfl rfl (hs_in (by decide)) dX2_learn_21 (fun H locs hP hD hS => ?_)
  have hE : upd hsz 2 0 = hsz := hs_uz 2
  have hP : va_P D vwCl [(q, .inr (1, [.ref q_ahead, .ref q_ways, .int 2])), (q_ahead, .inl (k 0, 5, .inl (upd hsz 2 0))), (t, .inr (5, [.ref t_weights, .ref t_kindOf, .ref t_light, .ref t_heavy, .ref t_seenBy, .ref t_seenCut, .ref t_seenFound, .int 2, .int 0, .int 0, .int 0, .int 0, .int 2, .int 0, .int 0]))] H := hP
  have hD : va_D A [(q, .inr (1, [.ref q_ahead, .ref q_ways, .int 2])), (q_ahead, .inl (k 0, 5, .inl (upd hsz 2 0))), (t, .inr (5, [.ref t_weights, .ref t_kindOf, .ref t_light, .ref t_heavy, .ref t_seenBy, .ref t_seenCut, .ref t_seenFound, .int 2, .int 0, .int 0, .int 0, .int 0, .int 2, .int 0, .int 0]))] := hD
  rw [hE] at hP hD
  refine lv_iinc (v := 3) (lv' := [(2, .int 3), (0, .ref q), (1, .ref t)]) hx hb dX2_learn_22 hl (k := 0) rfl (by decide) (by decide) rfl (fun ls hl => ?_)
  refine lv_goto (tgt := 10) hx hb dX2_learn_25 (by decide) ?_
  refine lv_iload_n hx hb dX2_learn_10 rfl (lv_at hl 0 rfl) ?_
  refine lv_iconst (v := 5) hx hb dX2_learn_11 (by decide) ?_
  refine lv_icmp_ge (tgt := 28) hx hb dX2_learn_12 (by decide) (fun c_4 => absurd c_4 (by decide)) (fun c_4 => ?_)
  refine lv_aload_n hx hb dX2_learn_15 rfl (lv_at hl 1 rfl) ?_
  refine va_get (D := D) (ci := 1) (v := .ref q_ahead) (C := RX2) (T := TX2) (N := 3) hx hb hts hiX2 hown hK hP 0 rfl rfl 0 (by decide) fl9 (fun _ h9 => h9) rfl dX2_learn_16 ?_
  refine lv_iload_n hx hb dX2_learn_19 rfl (lv_at hl 0 rfl) ?_
  refine lv_iconst (v := 0) hx hb dX2_learn_20 (by decide) ?_
  refine va_iast hx hb hK hP hD hS 1 0 rfl rfl (hs_in (by decide)) dX2_learn_21 (fun H locs hP hD hS => ?_)
  have hE : upd hsz 3 0 = hsz := hs_uz 3
  have hP : va_P D vwCl [(q, .inr (1, [.ref q_ahead, .ref q_ways, .int 2])), (q_ahead, .inl (k 0, 5, .inl (upd hsz 3 0))), (t, .inr (5, [.ref t_weights, .ref t_kindOf, .ref t_light, .ref t_heavy, .ref t_seenBy, .ref t_seenCut, .ref t_seenFound, .int 2, .int 0, .int 0, .int 0, .int 0, .int 2, .int 0, .int 0]))] H := hP
  have hD : va_D A [(q, .inr (1, [.ref q_ahead, .ref q_ways, .int 2])), (q_ahead, .inl (k 0, 5, .inl (upd hsz 3 0))), (t, .inr (5, [.ref t_weights, .ref t_kindOf, .ref t_light, .ref t_heavy, .ref t_seenBy, .ref t_seenCut, .ref t_seenFound, .int 2, .int 0, .int 0, .int 0, .int 0, .int 2, .int 0, .int 0]))] := hD
  rw [hE] at hP hD
  refine lv_iinc (v := 4) (lv' := [(2, .int 4), (0, .ref q), (1, .ref t)]) hx hb dX2_learn_22 hl (k := 0) rfl (by decide) (by decide) rfl (fun ls hl => ?_)
  refine lv_goto (tgt := 10) hx hb dX2_learn_25 (by decide) ?_
  refine lv_iload_n hx hb dX2_learn_10 rfl (lv_at hl 0 rfl) ?_
  refine lv_iconst (v := 5) hx hb dX2_learn_11 (by decide) ?_
  refine lv_icmp_ge (tgt := 28) hx hb dX2_learn_12 (by decide) (fun c_5 => absurd c_5 (by decide)) (fun c_5 => ?_)
  refine lv_aload_n hx hb dX2_learn_15 rfl (lv_at hl 1 rfl) ?_
  refine va_get (D := D) (ci := 1) (v := .ref q_ahead) (C := RX2) (T := TX2) (N := 3) hx hb hts hiX2 hown hK hP 0 rfl rfl 0 (by decide) fl9 (fun _ h9 => h9) rfl dX2_learn_16 ?_
  refine lv_iload_n hx hb dX2_learn_19 rfl (lv_at hl 0 rfl) ?_
  refine lv_iconst (v := 0) hx hb dX2_learn_20 (by decide) ?_
  refine va_iast hx hb hK hP hD hS 1 0 rfl rfl (hs_in (by decide)) dX2_learn_21 (fun H locs hP hD hS => ?_)
  have hE : upd hsz 4 0 = hsz := hs_uz 4
  have hP : va_P D vwCl [(q, .inr (1, [.ref q_ahead, .ref q_ways, .int 2])), (q_ahead, .inl (k 0, 5, .inl (upd hsz 4 0))), (t, .inr (5, [.ref t_weights, .ref t_kindOf, .ref t_light, .ref t_heavy, .ref t_seenBy, .ref t_seenCut, .ref t_seenFound, .int 2, .int 0, .int 0, .int 0, .int 0, .int 2, .int 0, .int 0]))] H := hP
  have hD : va_D A [(q, .inr (1, [.ref q_ahead, .ref q_ways, .int 2])), (q_ahead, .inl (k 0, 5, .inl (upd hsz 4 0))), (t, .inr (5, [.ref t_weights, .ref t_kindOf, .ref t_light, .ref t_heavy, .ref t_seenBy, .ref t_seenCut, .ref t_seenFound, .int 2, .int 0, .int 0, .int 0, .int 0, .int 2, .int 0, .int 0]))] := hD
  rw [hE] at hP hD
  refine lv_iinc (v := 5) (lv' := [(2, .int 5), (0, .ref q), (1, .ref t)]) hx hb dX2_learn_22 hl (k := 0) rfl (by decide) (by decide) rfl (fun ls hl => ?_)
  refine lv_goto (tgt := 10) hx hb dX2_learn_25 (by decide) ?_
  refine lv_iload_n hx hb dX2_learn_10 rfl (lv_at hl 0 rfl) ?_
  refine lv_iconst (v := 5) hx hb dX2_learn_11 (by decide) ?_
  refine lv_icmp_ge (tgt := 28) hx hb dX2_learn_12 (by decide) (fun c_6 => ?_) (fun c_6 => absurd c_6 (by decide))
  refine lv_iconst (v := 0) hx hb dX2_learn_28 (by decide) ?_
  refine lv_istore_n (lv' := [(2, .int 0), (0, .ref q), (1, .ref t)]) hx hb dX2_learn_29 rfl hl (by decide) rfl (fun ls hl => ?_)
  refine lv_iload_n hx hb dX2_learn_30 rfl (lv_at hl 0 rfl) ?_
  refine lv_aload_n hx hb dX2_learn_31 rfl (lv_at hl 2 rfl) ?_
  refine va_get (D := D) (ci := 5) (v := .int 0) (C := RX6) (T := TX6) (N := 15) hx hb hts hiX6 hown hK hP 2 rfl rfl 13 (by decide) fl27 (fun _ h9 => h9) rfl dX2_learn_32 ?_
  refine lv_icmp_ge (tgt := 66) hx hb dX2_learn_35 (by decide) (fun c_7 => ?_) (fun c_7 => absurd c_7 (by decide))
  exact hs_vret hx hb hr hlocks hK hP hD hS () [0, 1, 2] rfl (by decide) dX2_learn_66 (trivial)

set_option maxHeartbeats 4000000 in
set_option maxRecDepth 100000 in
theorem c_howMany_n (l : Launch) (D : va_G) (k : Nat → ClassId) (sz : Nat) (q : Nat) (q_ahead : Nat) (q_ways : Nat) (wf : Nat → Int32)  : MI l yX2_howMany wsX2_howMany ({ frames := 1, cells := 0, slots := 0, locals := 22 }) D k [.ref q] [(q, .inr (1, [.ref q_ahead, .ref q_ways, .int 2])), (q_ahead, .inl (k 0, 5, .inl (hsz))), (q_ways, .inl (k 0, 32, .inl (wf)))] sz (fun (r : Int32) (u : Unit) => r = 2) (fun (u : Unit) => [(q, .inr (1, [.ref q_ahead, .ref q_ways, .int 2])), (q_ahead, .inl (k 0, 5, .inl (hsz))), (q_ways, .inl (k 0, 32, .inl (upd (upd (upd (upd wf 0 1) 1 1) 2 1) 3 2)))]) := by
  refine Met.ofW (cc := cX2_howMany) (maxL := 6) (ret := (some .int)) (by decide) rfl ?_
  intro p e s m args below meth c s₁ B hml hv
  obtain ⟨rfl, hsz, hP, hK, hD0, hN⟩ := hv
  have hx := B.exec
  have hb := B.bytes
  have hr := B.returns
  have hlocks := B.notSynchronized
  have hts := atoms_spec (ws := wsX2_howMany) B.pre
  have hown : s.vm.findClass RX2 = some m.cls := findClass_of_methodNamed B.named
  have hiX2 : ∀ w ∈ u_ws RX2 TX2 3, w ∈ wsX2_howMany := by decide +kernel
  have fl24 := hts (.fieldLink RX2 24 "HalfScales$Ranks" "size" "I") (by decide +kernel)
  have fl15 := hts (.fieldLink RX2 15 "HalfScales$Ranks" "ways" "[I") (by decide +kernel)
  subst hsz
  have hD := hD0.self (sz := s.heap.size)
  generalize hAe : va_A [(q, .inr (1, [.ref q_ahead, .ref q_ways, .int 2])), (q_ahead, .inl (k 0, 5, .inl (hsz))), (q_ways, .inl (k 0, 32, .inl (wf)))] s.heap.size = A at hD ⊢
  have hA : ∀ q : Nat, s.heap.size ≤ q → A q := fun q h => by rw [← hAe]; exact Or.inr h
  have hS : va_S A s.heap s.heap [] := va_S.rf
  have hl := lv_entry ([.ref q]) (n := 6) (Nat.le_of_ble_eq_true rfl)
  rw [lg_entry_eq]
  generalize (lg_sl ([.ref q]) ++ List.replicate (6 - (lg_sl ([.ref q])).length) Slot.unset).toArray = ls at hl ⊢
  have hl : lv_has ls 6 [(0, .ref q)] := hl
  have hP : va_P D vwCl [(q, .inr (1, [.ref q_ahead, .ref q_ways, .int 2])), (q_ahead, .inl (k 0, 5, .inl (hsz))), (q_ways, .inl (k 0, 32, .inl (wf)))] s.heap := hP
  refine lv_iconst (v := 1) hx hb dX2_howMany_0 (by decide) ?_
  refine lv_aload_n hx hb dX2_howMany_1 rfl (lv_at hl 0 rfl) ?_
  refine va_get (D := D) (ci := 1) (v := .int 2) (C := RX2) (T := TX2) (N := 3) hx hb hts hiX2 hown hK hP 0 rfl rfl 2 (by decide) fl24 (fun _ h9 => h9) rfl dX2_howMany_2 ?_
  refine lv_ishl hx hb dX2_howMany_5 ?_
  refine hs_topi 4 (by first | rfl | decide +kernel) ?_
  refine lv_iconst (v := 1) hx hb dX2_howMany_6 (by decide) ?_
  refine lv_isub hx hb dX2_howMany_7 ?_
  refine hs_topi 3 (by first | rfl | decide +kernel) ?_
  refine lv_istore_n (lv' := [(1, .int 3), (0, .ref q)]) hx hb dX2_howMany_8 rfl hl (by decide) rfl (fun ls hl => ?_)
  refine lv_aload_n hx hb dX2_howMany_9 rfl (lv_at hl 1 rfl) ?_
  refine va_get (D := D) (ci := 1) (v := .ref q_ways) (C := RX2) (T := TX2) (N := 3) hx hb hts hiX2 hown hK hP 0 rfl rfl 1 (by decide) fl15 (fun _ h9 => h9) rfl dX2_howMany_10 ?_
  refine lv_iconst (v := 0) hx hb dX2_howMany_13 (by decide) ?_
  refine lv_iconst (v := 1) hx hb dX2_howMany_14 (by decide) ?_
  refine va_iast hx hb hK hP hD hS 2 0 rfl rfl (hs_in (by decide)) dX2_howMany_15 (fun H locs hP hD hS => ?_)
  have hP : va_P D vwCl [(q, .inr (1, [.ref q_ahead, .ref q_ways, .int 2])), (q_ahead, .inl (k 0, 5, .inl (hsz))), (q_ways, .inl (k 0, 32, .inl (upd wf 0 1)))] H := hP
  have hD : va_D A [(q, .inr (1, [.ref q_ahead, .ref q_ways, .int 2])), (q_ahead, .inl (k 0, 5, .inl (hsz))), (q_ways, .inl (k 0, 32, .inl (upd wf 0 1)))] := hD
  refine lv_iconst (v := 1) hx hb dX2_howMany_16 (by decide) ?_
  refine lv_istore_n (lv' := [(2, .int 1), (1, .int 3), (0, .ref q)]) hx hb dX2_howMany_17 rfl hl (by decide) rfl (fun ls hl => ?_)
  refine lv_iload_n hx hb dX2_howMany_18 rfl (lv_at hl 0 rfl) ?_
  refine lv_iload_n hx hb dX2_howMany_19 rfl (lv_at hl 1 rfl) ?_
  refine lv_icmp_gt (tgt := 93) hx hb dX2_howMany_20 (by decide) (fun c_1 => absurd c_1 (by decide)) (fun c_1 => ?_)
  refine lv_iconst (v := 0) hx hb dX2_howMany_23 (by decide) ?_
  refine lv_istore_n (lv' := [(3, .int 0), (2, .int 1), (1, .int 3), (0, .ref q)]) hx hb dX2_howMany_24 rfl hl (by decide) rfl (fun ls hl => ?_)
  refine lv_iconst (v := 0) hx hb dX2_howMany_25 (by decide) ?_
  refine lv_istore (lv' := [(4, .int 0), (3, .int 0), (2, .int 1), (1, .int 3), (0, .ref q)]) hx hb dX2_howMany_26 hl (by decide) rfl (fun ls hl => ?_)
  refine lv_iload hx hb dX2_howMany_28 (lv_at hl 0 rfl) ?_
  refine lv_aload_n hx hb dX2_howMany_30 rfl (lv_at hl 4 rfl) ?_
  refine va_get (D := D) (ci := 1) (v := .int 2) (C := RX2) (T := TX2) (N := 3) hx hb hts hiX2 hown hK hP 0 rfl rfl 2 (by decide) fl24 (fun _ h9 => h9) rfl dX2_howMany_31 ?_
  refine lv_icmp_ge (tgt := 80) hx hb dX2_howMany_34 (by decide) (fun c_2 => absurd c_2 (by decide)) (fun c_2 => ?_)
  refine lv_iload_n hx hb dX2_howMany_37 rfl (lv_at hl 2 rfl) ?_
  refine lv_iconst (v := 1) hx hb dX2_howMany_38 (by decide) ?_
  refine lv_iload hx hb dX2_howMany_39 (lv_at hl 0 rfl) ?_
  refine lv_ishl hx hb dX2_howMany_41 ?_
  refine hs_topi 1 (by first | rfl | decide +kernel) ?_
  refine lv_iconst (v := (-1)) hx hb dX2_howMany_42 (by decide) ?_
  refine lv_ixor hx hb dX2_howMany_43 ?_
  refine hs_topi (-2) (by first | rfl | decide +kernel) ?_
  refine lv_iand hx hb dX2_howMany_44 ?_
  refine hs_topi 0 (by first | rfl | decide +kernel) ?_
  refine lv_istore (lv' := [(5, .int 0), (4, .int 0), (3, .int 0), (2, .int 1), (1, .int 3), (0, .ref q)]) hx hb dX2_howMany_45 hl (by decide) rfl (fun ls hl => ?_)
  refine lv_iload hx hb dX2_howMany_47 (lv_at hl 0 rfl) ?_
  refine lv_iload_n hx hb dX2_howMany_49 rfl (lv_at hl 3 rfl) ?_
  refine lv_icmp_eq (tgt := 74) hx hb dX2_howMany_50 (by decide) (fun c_3 => absurd c_3 (by decide)) (fun c_3 => ?_)
  refine lv_aload_n hx hb dX2_howMany_53 rfl (lv_at hl 5 rfl) ?_
  refine lv_iload hx hb dX2_howMany_54 (lv_at hl 1 rfl) ?_
  refine lv_iload hx hb dX2_howMany_56 (lv_at hl 0 rfl) ?_
  refine hs_ci (va_runV (As := [.int 0, .int 0]) (rest := []) ⟨hx, hb, hml, hown, hts⟩ (c_mayCome l D k _ q q_ahead q_ways 2 0 0 hsz (hs_in (by decide))) (cwV 2 hts gX2_howMany_X2_mayCome rfl rfl rfl (by decide +kernel) ⟨Nat.le_of_ble_eq_true rfl, Nat.le_of_ble_eq_true rfl⟩) (hs_preV hK hN (hs_subP (w := [(q, .inr (1, [.ref q_ahead, .ref q_ways, .int 2])), (q_ahead, .inl (k 0, 5, .inl (hsz)))]) hP [0, 1] rfl) (hD.sub (ws' := [(q, .inr (1, [.ref q_ahead, .ref q_ways, .int 2])), (q_ahead, .inl (k 0, 5, .inl (hsz)))]) [0, 1] (by decide) rfl) (ci := 1) (q0 := 0) rfl rfl) rfl rfl hl.1 rfl (lv_room (Nat.le_of_ble_eq_true rfl)) dX2_howMany_58 ⟨Nat.le_of_ble_eq_true rfl, Nat.le_of_ble_eq_true rfl⟩) hP hD hS hA [0, 1] [2] [(q_ways, .inl (k 0, 32, .inl (upd wf 0 1)))] rfl rfl (by decide) (by decide) [1, 2, 0] (fun u_6 => [(q, .inr (1, [.ref q_ahead, .ref q_ways, .int 2])), (q_ahead, .inl (k 0, 5, .inl (hsz))), (q_ways, .inl (k 0, 32, .inl (upd wf 0 1)))]) (fun _ => rfl) (by decide) (fun r_4 u_6 H locs hw_5 hP hD hS => ?_)
  have hP : va_P D vwCl [(q, .inr (1, [.ref q_ahead, .ref q_ways, .int 2])), (q_ahead, .inl (k 0, 5, .inl (hsz))), (q_ways, .inl (k 0, 32, .inl (upd wf 0 1)))] H := hP
  have hD : va_D A [(q, .inr (1, [.ref q_ahead, .ref q_ways, .int 2])), (q_ahead, .inl (k 0, 5, .inl (hsz))), (q_ways, .inl (k 0, 32, .inl (upd wf 0 1)))] := hD
  refine hs_topi 1 (hw_5.trans (by first | rfl | decide +kernel | rfl)) ?_
  refine lv_if_eq (tgt := 74) hx hb dX2_howMany_61 (by decide) (fun c_7 => absurd c_7 (by decide)) (fun c_7 => ?_)
  refine lv_iload_n hx hb dX2_howMany_64 rfl (lv_at hl 2 rfl) ?_
  refine lv_aload_n hx hb dX2_howMany_65 rfl (lv_at hl 5 rfl) ?_
  refine va_get (D := D) (ci := 1) (v := .ref q_ways) (C := RX2) (T := TX2) (N := 3) hx hb hts hiX2 hown hK hP 0 rfl rfl 1 (by decide) fl15 (fun _ h9 => h9) rfl dX2_howMany_66 ?_
  refine lv_iload hx hb dX2_howMany_69 (lv_at hl 0 rfl) ?_
  refine va_iald hx hb hK hP 2 0 rfl rfl (hs_in (by decide)) dX2_howMany_71 ?_
  refine hs_topi 1 (by first | rfl | decide +kernel) ?_
  refine lv_iadd hx hb dX2_howMany_72 ?_
  refine hs_topi 1 (by first | rfl | decide +kernel) ?_
  refine lv_istore_n (lv' := [(3, .int 1), (5, .int 0), (4, .int 0), (2, .int 1), (1, .int 3), (0, .ref q)]) hx hb dX2_howMany_73 rfl hl (by decide) rfl (fun ls hl => ?_)
  refine lv_iinc (v := 1) (lv' := [(4, .int 1), (3, .int 1), (5, .int 0), (2, .int 1), (1, .int 3), (0, .ref q)]) hx hb dX2_howMany_74 hl (k := 2) rfl (by decide) (by decide) rfl (fun ls hl => ?_)
  refine lv_goto (tgt := 28) hx hb dX2_howMany_77 (by decide) ?_
  refine lv_iload hx hb dX2_howMany_28 (lv_at hl 0 rfl) ?_
  refine lv_aload_n hx hb dX2_howMany_30 rfl (lv_at hl 5 rfl) ?_
  refine va_get (D := D) (ci := 1) (v := .int 2) (C := RX2) (T := TX2) (N := 3) hx hb hts hiX2 hown hK hP 0 rfl rfl 2 (by decide) fl24 (fun _ h9 => h9) rfl dX2_howMany_31 ?_
  refine lv_icmp_ge (tgt := 80) hx hb dX2_howMany_34 (by decide) (fun c_8 => absurd c_8 (by decide)) (fun c_8 => ?_)
  refine lv_iload_n hx hb dX2_howMany_37 rfl (lv_at hl 3 rfl) ?_
  refine lv_iconst (v := 1) hx hb dX2_howMany_38 (by decide) ?_
  refine lv_iload hx hb dX2_howMany_39 (lv_at hl 0 rfl) ?_
  refine lv_ishl hx hb dX2_howMany_41 ?_
  refine hs_topi 2 (by first | rfl | decide +kernel) ?_
  refine lv_iconst (v := (-1)) hx hb dX2_howMany_42 (by decide) ?_
  refine lv_ixor hx hb dX2_howMany_43 ?_
  refine hs_topi (-3) (by first | rfl | decide +kernel) ?_
  refine lv_iand hx hb dX2_howMany_44 ?_
  refine hs_topi 1 (by first | rfl | decide +kernel) ?_
  refine lv_istore (lv' := [(5, .int 1), (4, .int 1), (3, .int 1), (2, .int 1), (1, .int 3), (0, .ref q)]) hx hb dX2_howMany_45 hl (by decide) rfl (fun ls hl => ?_)
  refine lv_iload hx hb dX2_howMany_47 (lv_at hl 0 rfl) ?_
  refine lv_iload_n hx hb dX2_howMany_49 rfl (lv_at hl 3 rfl) ?_
  refine lv_icmp_eq (tgt := 74) hx hb dX2_howMany_50 (by decide) (fun c_9 => ?_) (fun c_9 => absurd c_9 (by decide))
  refine lv_iinc (v := 2) (lv' := [(4, .int 2), (5, .int 1), (3, .int 1), (2, .int 1), (1, .int 3), (0, .ref q)]) hx hb dX2_howMany_74 hl (k := 1) rfl (by decide) (by decide) rfl (fun ls hl => ?_)
  refine lv_goto (tgt := 28) hx hb dX2_howMany_77 (by decide) ?_
  refine lv_iload hx hb dX2_howMany_28 (lv_at hl 0 rfl) ?_
  refine lv_aload_n hx hb dX2_howMany_30 rfl (lv_at hl 5 rfl) ?_
  refine va_get (D := D) (ci := 1) (v := .int 2) (C := RX2) (T := TX2) (N := 3) hx hb hts hiX2 hown hK hP 0 rfl rfl 2 (by decide) fl24 (fun _ h9 => h9) rfl dX2_howMany_31 ?_
  refine lv_icmp_ge (tgt := 80) hx hb dX2_howMany_34 (by decide) (fun c_10 => ?_) (fun c_10 => absurd c_10 (by decide))
  refine lv_aload_n hx hb dX2_howMany_80 rfl (lv_at hl 5 rfl) ?_
  refine va_get (D := D) (ci := 1) (v := .ref q_ways) (C := RX2) (T := TX2) (N := 3) hx hb hts hiX2 hown hK hP 0 rfl rfl 1 (by decide) fl15 (fun _ h9 => h9) rfl dX2_howMany_81 ?_
  refine lv_iload_n hx hb dX2_howMany_84 rfl (lv_at hl 3 rfl) ?_
  refine lv_iload_n hx hb dX2_howMany_85 rfl (lv_at hl 2 rfl) ?_
  refine va_iast hx hb hK hP hD hS 2 0 rfl rfl (hs_in (by decide)) dX2_howMany_86 (fun H locs hP hD hS => ?_)
  have hP : va_P D vwCl [(q, .inr (1, [.ref q_ahead, .ref q_ways, .int 2])), (q_ahead, .inl (k 0, 5, .inl (hsz))), (q_ways, .inl (k 0, 32, .inl (upd (upd wf 0 1) 1 1)))] H := hP
  have hD : va_D A [(q, .inr (1, [.ref q_ahead, .ref q_ways, .int 2])), (q_ahead, .inl (k 0, 5, .inl (hsz))), (q_ways, .inl (k 0, 32, .inl (upd (upd wf 0 1) 1 1)))] := hD
  refine lv_iinc (v := 2) (lv' := [(2, .int 2), (4, .int 2), (5, .int 1), (3, .int 1), (1, .int 3), (0, .ref q)]) hx hb dX2_howMany_87 hl (k := 3) rfl (by decide) (by decide) rfl (fun ls hl => ?_)
  refine lv_goto (tgt := 18) hx hb dX2_howMany_90 (by decide) ?_
  refine lv_iload_n hx hb dX2_howMany_18 rfl (lv_at hl 0 rfl) ?_
  refine lv_iload_n hx hb dX2_howMany_19 rfl (lv_at hl 4 rfl) ?_
  refine lv_icmp_gt (tgt := 93) hx hb dX2_howMany_20 (by decide) (fun c_11 => absurd c_11 (by decide)) (fun c_11 => ?_)
  refine lv_iconst (v := 0) hx hb dX2_howMany_23 (by decide) ?_
  refine lv_istore_n (lv' := [(3, .int 0), (2, .int 2), (4, .int 2), (5, .int 1), (1, .int 3), (0, .ref q)]) hx hb dX2_howMany_24 rfl hl (by decide) rfl (fun ls hl => ?_)
  refine lv_iconst (v := 0) hx hb dX2_howMany_25 (by decide) ?_
  refine lv_istore (lv' := [(4, .int 0), (3, .int 0), (2, .int 2), (5, .int 1), (1, .int 3), (0, .ref q)]) hx hb dX2_howMany_26 hl (by decide) rfl (fun ls hl => ?_)
  refine lv_iload hx hb dX2_howMany_28 (lv_at hl 0 rfl) ?_
  refine lv_aload_n hx hb dX2_howMany_30 rfl (lv_at hl 5 rfl) ?_
  refine va_get (D := D) (ci := 1) (v := .int 2) (C := RX2) (T := TX2) (N := 3) hx hb hts hiX2 hown hK hP 0 rfl rfl 2 (by decide) fl24 (fun _ h9 => h9) rfl dX2_howMany_31 ?_
  refine lv_icmp_ge (tgt := 80) hx hb dX2_howMany_34 (by decide) (fun c_12 => absurd c_12 (by decide)) (fun c_12 => ?_)
  refine lv_iload_n hx hb dX2_howMany_37 rfl (lv_at hl 2 rfl) ?_
  refine lv_iconst (v := 1) hx hb dX2_howMany_38 (by decide) ?_
  refine lv_iload hx hb dX2_howMany_39 (lv_at hl 0 rfl) ?_
  refine lv_ishl hx hb dX2_howMany_41 ?_
  refine hs_topi 1 (by first | rfl | decide +kernel) ?_
  refine lv_iconst (v := (-1)) hx hb dX2_howMany_42 (by decide) ?_
  refine lv_ixor hx hb dX2_howMany_43 ?_
  refine hs_topi (-2) (by first | rfl | decide +kernel) ?_
  refine lv_iand hx hb dX2_howMany_44 ?_
  refine hs_topi 2 (by first | rfl | decide +kernel) ?_
  refine lv_istore (lv' := [(5, .int 2), (4, .int 0), (3, .int 0), (2, .int 2), (1, .int 3), (0, .ref q)]) hx hb dX2_howMany_45 hl (by decide) rfl (fun ls hl => ?_)
  refine lv_iload hx hb dX2_howMany_47 (lv_at hl 0 rfl) ?_
  refine lv_iload_n hx hb dX2_howMany_49 rfl (lv_at hl 3 rfl) ?_
  refine lv_icmp_eq (tgt := 74) hx hb dX2_howMany_50 (by decide) (fun c_13 => ?_) (fun c_13 => absurd c_13 (by decide))
  refine lv_iinc (v := 1) (lv' := [(4, .int 1), (5, .int 2), (3, .int 0), (2, .int 2), (1, .int 3), (0, .ref q)]) hx hb dX2_howMany_74 hl (k := 1) rfl (by decide) (by decide) rfl (fun ls hl => ?_)
  refine lv_goto (tgt := 28) hx hb dX2_howMany_77 (by decide) ?_
  refine lv_iload hx hb dX2_howMany_28 (lv_at hl 0 rfl) ?_
  refine lv_aload_n hx hb dX2_howMany_30 rfl (lv_at hl 5 rfl) ?_
  refine va_get (D := D) (ci := 1) (v := .int 2) (C := RX2) (T := TX2) (N := 3) hx hb hts hiX2 hown hK hP 0 rfl rfl 2 (by decide) fl24 (fun _ h9 => h9) rfl dX2_howMany_31 ?_
  refine lv_icmp_ge (tgt := 80) hx hb dX2_howMany_34 (by decide) (fun c_14 => absurd c_14 (by decide)) (fun c_14 => ?_)
  refine lv_iload_n hx hb dX2_howMany_37 rfl (lv_at hl 3 rfl) ?_
  refine lv_iconst (v := 1) hx hb dX2_howMany_38 (by decide) ?_
  refine lv_iload hx hb dX2_howMany_39 (lv_at hl 0 rfl) ?_
  refine lv_ishl hx hb dX2_howMany_41 ?_
  refine hs_topi 2 (by first | rfl | decide +kernel) ?_
  refine lv_iconst (v := (-1)) hx hb dX2_howMany_42 (by decide) ?_
  refine lv_ixor hx hb dX2_howMany_43 ?_
  refine hs_topi (-3) (by first | rfl | decide +kernel) ?_
  refine lv_iand hx hb dX2_howMany_44 ?_
  refine hs_topi 0 (by first | rfl | decide +kernel) ?_
  refine lv_istore (lv' := [(5, .int 0), (4, .int 1), (3, .int 0), (2, .int 2), (1, .int 3), (0, .ref q)]) hx hb dX2_howMany_45 hl (by decide) rfl (fun ls hl => ?_)
  refine lv_iload hx hb dX2_howMany_47 (lv_at hl 0 rfl) ?_
  refine lv_iload_n hx hb dX2_howMany_49 rfl (lv_at hl 3 rfl) ?_
  refine lv_icmp_eq (tgt := 74) hx hb dX2_howMany_50 (by decide) (fun c_15 => absurd c_15 (by decide)) (fun c_15 => ?_)
  refine lv_aload_n hx hb dX2_howMany_53 rfl (lv_at hl 5 rfl) ?_
  refine lv_iload hx hb dX2_howMany_54 (lv_at hl 1 rfl) ?_
  refine lv_iload hx hb dX2_howMany_56 (lv_at hl 0 rfl) ?_
  refine hs_ci (va_runV (As := [.int 1, .int 0]) (rest := []) ⟨hx, hb, hml, hown, hts⟩ (c_mayCome l D k _ q q_ahead q_ways 2 1 0 hsz (hs_in (by decide))) (cwV 2 hts gX2_howMany_X2_mayCome rfl rfl rfl (by decide +kernel) ⟨Nat.le_of_ble_eq_true rfl, Nat.le_of_ble_eq_true rfl⟩) (hs_preV hK hN (hs_subP (w := [(q, .inr (1, [.ref q_ahead, .ref q_ways, .int 2])), (q_ahead, .inl (k 0, 5, .inl (hsz)))]) hP [0, 1] rfl) (hD.sub (ws' := [(q, .inr (1, [.ref q_ahead, .ref q_ways, .int 2])), (q_ahead, .inl (k 0, 5, .inl (hsz)))]) [0, 1] (by decide) rfl) (ci := 1) (q0 := 0) rfl rfl) rfl rfl hl.1 rfl (lv_room (Nat.le_of_ble_eq_true rfl)) dX2_howMany_58 ⟨Nat.le_of_ble_eq_true rfl, Nat.le_of_ble_eq_true rfl⟩) hP hD hS hA [0, 1] [2] [(q_ways, .inl (k 0, 32, .inl (upd (upd wf 0 1) 1 1)))] rfl rfl (by decide) (by decide) [1, 2, 0] (fun u_18 => [(q, .inr (1, [.ref q_ahead, .ref q_ways, .int 2])), (q_ahead, .inl (k 0, 5, .inl (hsz))), (q_ways, .inl (k 0, 32, .inl (upd (upd wf 0 1) 1 1)))]) (fun _ => rfl) (by decide) (fun r_16 u_18 H locs hw_17 hP hD hS => ?_)
  have hP : va_P D vwCl [(q, .inr (1, [.ref q_ahead, .ref q_ways, .int 2])), (q_ahead, .inl (k 0, 5, .inl (hsz))), (q_ways, .inl (k 0, 32, .inl (upd (upd wf 0 1) 1 1)))] H := hP
  have hD : va_D A [(q, .inr (1, [.ref q_ahead, .ref q_ways, .int 2])), (q_ahead, .inl (k 0, 5, .inl (hsz))), (q_ways, .inl (k 0, 32, .inl (upd (upd wf 0 1) 1 1)))] := hD
  refine hs_topi 1 (hw_17.trans (by first | rfl | decide +kernel | rfl)) ?_
  refine lv_if_eq (tgt := 74) hx hb dX2_howMany_61 (by decide) (fun c_19 => absurd c_19 (by decide)) (fun c_19 => ?_)
  refine lv_iload_n hx hb dX2_howMany_64 rfl (lv_at hl 2 rfl) ?_
  refine lv_aload_n hx hb dX2_howMany_65 rfl (lv_at hl 5 rfl) ?_
  refine va_get (D := D) (ci := 1) (v := .ref q_ways) (C := RX2) (T := TX2) (N := 3) hx hb hts hiX2 hown hK hP 0 rfl rfl 1 (by decide) fl15 (fun _ h9 => h9) rfl dX2_howMany_66 ?_
  refine lv_iload hx hb dX2_howMany_69 (lv_at hl 0 rfl) ?_
  refine va_iald hx hb hK hP 2 0 rfl rfl (hs_in (by decide)) dX2_howMany_71 ?_
  refine hs_topi 1 (by first | rfl | decide +kernel) ?_
  refine lv_iadd hx hb dX2_howMany_72 ?_
  refine hs_topi 1 (by first | rfl | decide +kernel) ?_
  refine lv_istore_n (lv' := [(3, .int 1), (5, .int 0), (4, .int 1), (2, .int 2), (1, .int 3), (0, .ref q)]) hx hb dX2_howMany_73 rfl hl (by decide) rfl (fun ls hl => ?_)
  refine lv_iinc (v := 2) (lv' := [(4, .int 2), (3, .int 1), (5, .int 0), (2, .int 2), (1, .int 3), (0, .ref q)]) hx hb dX2_howMany_74 hl (k := 2) rfl (by decide) (by decide) rfl (fun ls hl => ?_)
  refine lv_goto (tgt := 28) hx hb dX2_howMany_77 (by decide) ?_
  refine lv_iload hx hb dX2_howMany_28 (lv_at hl 0 rfl) ?_
  refine lv_aload_n hx hb dX2_howMany_30 rfl (lv_at hl 5 rfl) ?_
  refine va_get (D := D) (ci := 1) (v := .int 2) (C := RX2) (T := TX2) (N := 3) hx hb hts hiX2 hown hK hP 0 rfl rfl 2 (by decide) fl24 (fun _ h9 => h9) rfl dX2_howMany_31 ?_
  refine lv_icmp_ge (tgt := 80) hx hb dX2_howMany_34 (by decide) (fun c_20 => ?_) (fun c_20 => absurd c_20 (by decide))
  refine lv_aload_n hx hb dX2_howMany_80 rfl (lv_at hl 5 rfl) ?_
  refine va_get (D := D) (ci := 1) (v := .ref q_ways) (C := RX2) (T := TX2) (N := 3) hx hb hts hiX2 hown hK hP 0 rfl rfl 1 (by decide) fl15 (fun _ h9 => h9) rfl dX2_howMany_81 ?_
  refine lv_iload_n hx hb dX2_howMany_84 rfl (lv_at hl 3 rfl) ?_
  refine lv_iload_n hx hb dX2_howMany_85 rfl (lv_at hl 1 rfl) ?_
  refine va_iast hx hb hK hP hD hS 2 0 rfl rfl (hs_in (by decide)) dX2_howMany_86 (fun H locs hP hD hS => ?_)
  have hP : va_P D vwCl [(q, .inr (1, [.ref q_ahead, .ref q_ways, .int 2])), (q_ahead, .inl (k 0, 5, .inl (hsz))), (q_ways, .inl (k 0, 32, .inl (upd (upd (upd wf 0 1) 1 1) 2 1)))] H := hP
  have hD : va_D A [(q, .inr (1, [.ref q_ahead, .ref q_ways, .int 2])), (q_ahead, .inl (k 0, 5, .inl (hsz))), (q_ways, .inl (k 0, 32, .inl (upd (upd (upd wf 0 1) 1 1) 2 1)))] := hD
  refine lv_iinc (v := 3) (lv' := [(2, .int 3), (4, .int 2), (3, .int 1), (5, .int 0), (1, .int 3), (0, .ref q)]) hx hb dX2_howMany_87 hl (k := 3) rfl (by decide) (by decide) rfl (fun ls hl => ?_)
  refine lv_goto (tgt := 18) hx hb dX2_howMany_90 (by decide) ?_
  refine lv_iload_n hx hb dX2_howMany_18 rfl (lv_at hl 0 rfl) ?_
  refine lv_iload_n hx hb dX2_howMany_19 rfl (lv_at hl 4 rfl) ?_
  refine lv_icmp_gt (tgt := 93) hx hb dX2_howMany_20 (by decide) (fun c_21 => absurd c_21 (by decide)) (fun c_21 => ?_)
  refine lv_iconst (v := 0) hx hb dX2_howMany_23 (by decide) ?_
  refine lv_istore_n (lv' := [(3, .int 0), (2, .int 3), (4, .int 2), (5, .int 0), (1, .int 3), (0, .ref q)]) hx hb dX2_howMany_24 rfl hl (by decide) rfl (fun ls hl => ?_)
  refine lv_iconst (v := 0) hx hb dX2_howMany_25 (by decide) ?_
  refine lv_istore (lv' := [(4, .int 0), (3, .int 0), (2, .int 3), (5, .int 0), (1, .int 3), (0, .ref q)]) hx hb dX2_howMany_26 hl (by decide) rfl (fun ls hl => ?_)
  refine lv_iload hx hb dX2_howMany_28 (lv_at hl 0 rfl) ?_
  refine lv_aload_n hx hb dX2_howMany_30 rfl (lv_at hl 5 rfl) ?_
  refine va_get (D := D) (ci := 1) (v := .int 2) (C := RX2) (T := TX2) (N := 3) hx hb hts hiX2 hown hK hP 0 rfl rfl 2 (by decide) fl24 (fun _ h9 => h9) rfl dX2_howMany_31 ?_
  refine lv_icmp_ge (tgt := 80) hx hb dX2_howMany_34 (by decide) (fun c_22 => absurd c_22 (by decide)) (fun c_22 => ?_)
  refine lv_iload_n hx hb dX2_howMany_37 rfl (lv_at hl 2 rfl) ?_
  refine lv_iconst (v := 1) hx hb dX2_howMany_38 (by decide) ?_
  refine lv_iload hx hb dX2_howMany_39 (lv_at hl 0 rfl) ?_
  refine lv_ishl hx hb dX2_howMany_41 ?_
  refine hs_topi 1 (by first | rfl | decide +kernel) ?_
  refine lv_iconst (v := (-1)) hx hb dX2_howMany_42 (by decide) ?_
  refine lv_ixor hx hb dX2_howMany_43 ?_
  refine hs_topi (-2) (by first | rfl | decide +kernel) ?_
  refine lv_iand hx hb dX2_howMany_44 ?_
  refine hs_topi 2 (by first | rfl | decide +kernel) ?_
  refine lv_istore (lv' := [(5, .int 2), (4, .int 0), (3, .int 0), (2, .int 3), (1, .int 3), (0, .ref q)]) hx hb dX2_howMany_45 hl (by decide) rfl (fun ls hl => ?_)
  refine lv_iload hx hb dX2_howMany_47 (lv_at hl 0 rfl) ?_
  refine lv_iload_n hx hb dX2_howMany_49 rfl (lv_at hl 3 rfl) ?_
  refine lv_icmp_eq (tgt := 74) hx hb dX2_howMany_50 (by decide) (fun c_23 => absurd c_23 (by decide)) (fun c_23 => ?_)
  refine lv_aload_n hx hb dX2_howMany_53 rfl (lv_at hl 5 rfl) ?_
  refine lv_iload hx hb dX2_howMany_54 (lv_at hl 1 rfl) ?_
  refine lv_iload hx hb dX2_howMany_56 (lv_at hl 0 rfl) ?_
  refine hs_ci (va_runV (As := [.int 0, .int 2]) (rest := []) ⟨hx, hb, hml, hown, hts⟩ (c_mayCome l D k _ q q_ahead q_ways 2 0 2 hsz (hs_in (by decide))) (cwV 2 hts gX2_howMany_X2_mayCome rfl rfl rfl (by decide +kernel) ⟨Nat.le_of_ble_eq_true rfl, Nat.le_of_ble_eq_true rfl⟩) (hs_preV hK hN (hs_subP (w := [(q, .inr (1, [.ref q_ahead, .ref q_ways, .int 2])), (q_ahead, .inl (k 0, 5, .inl (hsz)))]) hP [0, 1] rfl) (hD.sub (ws' := [(q, .inr (1, [.ref q_ahead, .ref q_ways, .int 2])), (q_ahead, .inl (k 0, 5, .inl (hsz)))]) [0, 1] (by decide) rfl) (ci := 1) (q0 := 0) rfl rfl) rfl rfl hl.1 rfl (lv_room (Nat.le_of_ble_eq_true rfl)) dX2_howMany_58 ⟨Nat.le_of_ble_eq_true rfl, Nat.le_of_ble_eq_true rfl⟩) hP hD hS hA [0, 1] [2] [(q_ways, .inl (k 0, 32, .inl (upd (upd (upd wf 0 1) 1 1) 2 1)))] rfl rfl (by decide) (by decide) [1, 2, 0] (fun u_26 => [(q, .inr (1, [.ref q_ahead, .ref q_ways, .int 2])), (q_ahead, .inl (k 0, 5, .inl (hsz))), (q_ways, .inl (k 0, 32, .inl (upd (upd (upd wf 0 1) 1 1) 2 1)))]) (fun _ => rfl) (by decide) (fun r_24 u_26 H locs hw_25 hP hD hS => ?_)
  have hP : va_P D vwCl [(q, .inr (1, [.ref q_ahead, .ref q_ways, .int 2])), (q_ahead, .inl (k 0, 5, .inl (hsz))), (q_ways, .inl (k 0, 32, .inl (upd (upd (upd wf 0 1) 1 1) 2 1)))] H := hP
  have hD : va_D A [(q, .inr (1, [.ref q_ahead, .ref q_ways, .int 2])), (q_ahead, .inl (k 0, 5, .inl (hsz))), (q_ways, .inl (k 0, 32, .inl (upd (upd (upd wf 0 1) 1 1) 2 1)))] := hD
  refine hs_topi 1 (hw_25.trans (by first | rfl | decide +kernel | rfl)) ?_
  refine lv_if_eq (tgt := 74) hx hb dX2_howMany_61 (by decide) (fun c_27 => absurd c_27 (by decide)) (fun c_27 => ?_)
  refine lv_iload_n hx hb dX2_howMany_64 rfl (lv_at hl 2 rfl) ?_
  refine lv_aload_n hx hb dX2_howMany_65 rfl (lv_at hl 5 rfl) ?_
  refine va_get (D := D) (ci := 1) (v := .ref q_ways) (C := RX2) (T := TX2) (N := 3) hx hb hts hiX2 hown hK hP 0 rfl rfl 1 (by decide) fl15 (fun _ h9 => h9) rfl dX2_howMany_66 ?_
  refine lv_iload hx hb dX2_howMany_69 (lv_at hl 0 rfl) ?_
  refine va_iald hx hb hK hP 2 0 rfl rfl (hs_in (by decide)) dX2_howMany_71 ?_
  refine hs_topi 1 (by first | rfl | decide +kernel) ?_
  refine lv_iadd hx hb dX2_howMany_72 ?_
  refine hs_topi 1 (by first | rfl | decide +kernel) ?_
  refine lv_istore_n (lv' := [(3, .int 1), (5, .int 2), (4, .int 0), (2, .int 3), (1, .int 3), (0, .ref q)]) hx hb dX2_howMany_73 rfl hl (by decide) rfl (fun ls hl => ?_)
  refine lv_iinc (v := 1) (lv' := [(4, .int 1), (3, .int 1), (5, .int 2), (2, .int 3), (1, .int 3), (0, .ref q)]) hx hb dX2_howMany_74 hl (k := 2) rfl (by decide) (by decide) rfl (fun ls hl => ?_)
  refine lv_goto (tgt := 28) hx hb dX2_howMany_77 (by decide) ?_
  refine lv_iload hx hb dX2_howMany_28 (lv_at hl 0 rfl) ?_
  refine lv_aload_n hx hb dX2_howMany_30 rfl (lv_at hl 5 rfl) ?_
  refine va_get (D := D) (ci := 1) (v := .int 2) (C := RX2) (T := TX2) (N := 3) hx hb hts hiX2 hown hK hP 0 rfl rfl 2 (by decide) fl24 (fun _ h9 => h9) rfl dX2_howMany_31 ?_
  refine lv_icmp_ge (tgt := 80) hx hb dX2_howMany_34 (by decide) (fun c_28 => absurd c_28 (by decide)) (fun c_28 => ?_)
  refine lv_iload_n hx hb dX2_howMany_37 rfl (lv_at hl 3 rfl) ?_
  refine lv_iconst (v := 1) hx hb dX2_howMany_38 (by decide) ?_
  refine lv_iload hx hb dX2_howMany_39 (lv_at hl 0 rfl) ?_
  refine lv_ishl hx hb dX2_howMany_41 ?_
  refine hs_topi 2 (by first | rfl | decide +kernel) ?_
  refine lv_iconst (v := (-1)) hx hb dX2_howMany_42 (by decide) ?_
  refine lv_ixor hx hb dX2_howMany_43 ?_
  refine hs_topi (-3) (by first | rfl | decide +kernel) ?_
  refine lv_iand hx hb dX2_howMany_44 ?_
  refine hs_topi 1 (by first | rfl | decide +kernel) ?_
  refine lv_istore (lv' := [(5, .int 1), (4, .int 1), (3, .int 1), (2, .int 3), (1, .int 3), (0, .ref q)]) hx hb dX2_howMany_45 hl (by decide) rfl (fun ls hl => ?_)
  refine lv_iload hx hb dX2_howMany_47 (lv_at hl 0 rfl) ?_
  refine lv_iload_n hx hb dX2_howMany_49 rfl (lv_at hl 3 rfl) ?_
  refine lv_icmp_eq (tgt := 74) hx hb dX2_howMany_50 (by decide) (fun c_29 => absurd c_29 (by decide)) (fun c_29 => ?_)
  refine lv_aload_n hx hb dX2_howMany_53 rfl (lv_at hl 5 rfl) ?_
  refine lv_iload hx hb dX2_howMany_54 (lv_at hl 1 rfl) ?_
  refine lv_iload hx hb dX2_howMany_56 (lv_at hl 0 rfl) ?_
  refine hs_ci (va_runV (As := [.int 1, .int 1]) (rest := []) ⟨hx, hb, hml, hown, hts⟩ (c_mayCome l D k _ q q_ahead q_ways 2 1 1 hsz (hs_in (by decide))) (cwV 2 hts gX2_howMany_X2_mayCome rfl rfl rfl (by decide +kernel) ⟨Nat.le_of_ble_eq_true rfl, Nat.le_of_ble_eq_true rfl⟩) (hs_preV hK hN (hs_subP (w := [(q, .inr (1, [.ref q_ahead, .ref q_ways, .int 2])), (q_ahead, .inl (k 0, 5, .inl (hsz)))]) hP [0, 1] rfl) (hD.sub (ws' := [(q, .inr (1, [.ref q_ahead, .ref q_ways, .int 2])), (q_ahead, .inl (k 0, 5, .inl (hsz)))]) [0, 1] (by decide) rfl) (ci := 1) (q0 := 0) rfl rfl) rfl rfl hl.1 rfl (lv_room (Nat.le_of_ble_eq_true rfl)) dX2_howMany_58 ⟨Nat.le_of_ble_eq_true rfl, Nat.le_of_ble_eq_true rfl⟩) hP hD hS hA [0, 1] [2] [(q_ways, .inl (k 0, 32, .inl (upd (upd (upd wf 0 1) 1 1) 2 1)))] rfl rfl (by decide) (by decide) [1, 2, 0] (fun u_32 => [(q, .inr (1, [.ref q_ahead, .ref q_ways, .int 2])), (q_ahead, .inl (k 0, 5, .inl (hsz))), (q_ways, .inl (k 0, 32, .inl (upd (upd (upd wf 0 1) 1 1) 2 1)))]) (fun _ => rfl) (by decide) (fun r_30 u_32 H locs hw_31 hP hD hS => ?_)
  have hP : va_P D vwCl [(q, .inr (1, [.ref q_ahead, .ref q_ways, .int 2])), (q_ahead, .inl (k 0, 5, .inl (hsz))), (q_ways, .inl (k 0, 32, .inl (upd (upd (upd wf 0 1) 1 1) 2 1)))] H := hP
  have hD : va_D A [(q, .inr (1, [.ref q_ahead, .ref q_ways, .int 2])), (q_ahead, .inl (k 0, 5, .inl (hsz))), (q_ways, .inl (k 0, 32, .inl (upd (upd (upd wf 0 1) 1 1) 2 1)))] := hD
  refine hs_topi 1 (hw_31.trans (by first | rfl | decide +kernel | rfl)) ?_
  refine lv_if_eq (tgt := 74) hx hb dX2_howMany_61 (by decide) (fun c_33 => absurd c_33 (by decide)) (fun c_33 => ?_)
  refine lv_iload_n hx hb dX2_howMany_64 rfl (lv_at hl 2 rfl) ?_
  refine lv_aload_n hx hb dX2_howMany_65 rfl (lv_at hl 5 rfl) ?_
  refine va_get (D := D) (ci := 1) (v := .ref q_ways) (C := RX2) (T := TX2) (N := 3) hx hb hts hiX2 hown hK hP 0 rfl rfl 1 (by decide) fl15 (fun _ h9 => h9) rfl dX2_howMany_66 ?_
  refine lv_iload hx hb dX2_howMany_69 (lv_at hl 0 rfl) ?_
  refine va_iald hx hb hK hP 2 0 rfl rfl (hs_in (by decide)) dX2_howMany_71 ?_
  refine hs_topi 1 (by first | rfl | decide +kernel) ?_
  refine lv_iadd hx hb dX2_howMany_72 ?_
  refine hs_topi 2 (by first | rfl | decide +kernel) ?_
  refine lv_istore_n (lv' := [(3, .int 2), (5, .int 1), (4, .int 1), (2, .int 3), (1, .int 3), (0, .ref q)]) hx hb dX2_howMany_73 rfl hl (by decide) rfl (fun ls hl => ?_)
  refine lv_iinc (v := 2) (lv' := [(4, .int 2), (3, .int 2), (5, .int 1), (2, .int 3), (1, .int 3), (0, .ref q)]) hx hb dX2_howMany_74 hl (k := 2) rfl (by decide) (by decide) rfl (fun ls hl => ?_)
  refine lv_goto (tgt := 28) hx hb dX2_howMany_77 (by decide) ?_
  refine lv_iload hx hb dX2_howMany_28 (lv_at hl 0 rfl) ?_
  refine lv_aload_n hx hb dX2_howMany_30 rfl (lv_at hl 5 rfl) ?_
  refine va_get (D := D) (ci := 1) (v := .int 2) (C := RX2) (T := TX2) (N := 3) hx hb hts hiX2 hown hK hP 0 rfl rfl 2 (by decide) fl24 (fun _ h9 => h9) rfl dX2_howMany_31 ?_
  refine lv_icmp_ge (tgt := 80) hx hb dX2_howMany_34 (by decide) (fun c_34 => ?_) (fun c_34 => absurd c_34 (by decide))
  refine lv_aload_n hx hb dX2_howMany_80 rfl (lv_at hl 5 rfl) ?_
  refine va_get (D := D) (ci := 1) (v := .ref q_ways) (C := RX2) (T := TX2) (N := 3) hx hb hts hiX2 hown hK hP 0 rfl rfl 1 (by decide) fl15 (fun _ h9 => h9) rfl dX2_howMany_81 ?_
  refine lv_iload_n hx hb dX2_howMany_84 rfl (lv_at hl 3 rfl) ?_
  refine lv_iload_n hx hb dX2_howMany_85 rfl (lv_at hl 1 rfl) ?_
  refine va_iast hx hb hK hP hD hS 2 0 rfl rfl (hs_in (by decide)) dX2_howMany_86 (fun H locs hP hD hS => ?_)
  have hP : va_P D vwCl [(q, .inr (1, [.ref q_ahead, .ref q_ways, .int 2])), (q_ahead, .inl (k 0, 5, .inl (hsz))), (q_ways, .inl (k 0, 32, .inl (upd (upd (upd (upd wf 0 1) 1 1) 2 1) 3 2)))] H := hP
  have hD : va_D A [(q, .inr (1, [.ref q_ahead, .ref q_ways, .int 2])), (q_ahead, .inl (k 0, 5, .inl (hsz))), (q_ways, .inl (k 0, 32, .inl (upd (upd (upd (upd wf 0 1) 1 1) 2 1) 3 2)))] := hD
  refine lv_iinc (v := 4) (lv' := [(2, .int 4), (4, .int 2), (3, .int 2), (5, .int 1), (1, .int 3), (0, .ref q)]) hx hb dX2_howMany_87 hl (k := 3) rfl (by decide) (by decide) rfl (fun ls hl => ?_)
  refine lv_goto (tgt := 18) hx hb dX2_howMany_90 (by decide) ?_
  refine lv_iload_n hx hb dX2_howMany_18 rfl (lv_at hl 0 rfl) ?_
  refine lv_iload_n hx hb dX2_howMany_19 rfl (lv_at hl 4 rfl) ?_
  refine lv_icmp_gt (tgt := 93) hx hb dX2_howMany_20 (by decide) (fun c_35 => ?_) (fun c_35 => absurd c_35 (by decide))
  refine lv_aload_n hx hb dX2_howMany_93 rfl (lv_at hl 5 rfl) ?_
  refine va_get (D := D) (ci := 1) (v := .ref q_ways) (C := RX2) (T := TX2) (N := 3) hx hb hts hiX2 hown hK hP 0 rfl rfl 1 (by decide) fl15 (fun _ h9 => h9) rfl dX2_howMany_94 ?_
  refine lv_iload_n hx hb dX2_howMany_97 rfl (lv_at hl 4 rfl) ?_
  refine va_iald hx hb hK hP 2 0 rfl rfl (hs_in (by decide)) dX2_howMany_98 ?_
  refine hs_topi 2 (by first | rfl | decide +kernel) ?_
  exact hs_iret hx hb hr hlocks hK hP hD hS () [0, 1, 2] rfl (by decide) dX2_howMany_99 (rfl)

set_option maxHeartbeats 4000000 in
set_option maxRecDepth 100000 in
theorem c_howMany_01 (l : Launch) (D : va_G) (k : Nat → ClassId) (sz : Nat) (q : Nat) (q_ahead : Nat) (q_ways : Nat) (wf : Nat → Int32)  : MI l yX2_howMany wsX2_howMany ({ frames := 1, cells := 0, slots := 0, locals := 22 }) D k [.ref q] [(q, .inr (1, [.ref q_ahead, .ref q_ways, .int 2])), (q_ahead, .inl (k 0, 5, .inl (upd hsz 1 1))), (q_ways, .inl (k 0, 32, .inl (wf)))] sz (fun (r : Int32) (u : Unit) => r = 1) (fun (u : Unit) => [(q, .inr (1, [.ref q_ahead, .ref q_ways, .int 2])), (q_ahead, .inl (k 0, 5, .inl (upd hsz 1 1))), (q_ways, .inl (k 0, 32, .inl (upd (upd (upd (upd wf 0 1) 1 1) 2 0) 3 1)))]) := by
  refine Met.ofW (cc := cX2_howMany) (maxL := 6) (ret := (some .int)) (by decide) rfl ?_
  intro p e s m args below meth c s₁ B hml hv
  obtain ⟨rfl, hsz, hP, hK, hD0, hN⟩ := hv
  have hx := B.exec
  have hb := B.bytes
  have hr := B.returns
  have hlocks := B.notSynchronized
  have hts := atoms_spec (ws := wsX2_howMany) B.pre
  have hown : s.vm.findClass RX2 = some m.cls := findClass_of_methodNamed B.named
  have hiX2 : ∀ w ∈ u_ws RX2 TX2 3, w ∈ wsX2_howMany := by decide +kernel
  have fl24 := hts (.fieldLink RX2 24 "HalfScales$Ranks" "size" "I") (by decide +kernel)
  have fl15 := hts (.fieldLink RX2 15 "HalfScales$Ranks" "ways" "[I") (by decide +kernel)
  subst hsz
  have hD := hD0.self (sz := s.heap.size)
  generalize hAe : va_A [(q, .inr (1, [.ref q_ahead, .ref q_ways, .int 2])), (q_ahead, .inl (k 0, 5, .inl (upd hsz 1 1))), (q_ways, .inl (k 0, 32, .inl (wf)))] s.heap.size = A at hD ⊢
  have hA : ∀ q : Nat, s.heap.size ≤ q → A q := fun q h => by rw [← hAe]; exact Or.inr h
  have hS : va_S A s.heap s.heap [] := va_S.rf
  have hl := lv_entry ([.ref q]) (n := 6) (Nat.le_of_ble_eq_true rfl)
  rw [lg_entry_eq]
  generalize (lg_sl ([.ref q]) ++ List.replicate (6 - (lg_sl ([.ref q])).length) Slot.unset).toArray = ls at hl ⊢
  have hl : lv_has ls 6 [(0, .ref q)] := hl
  have hP : va_P D vwCl [(q, .inr (1, [.ref q_ahead, .ref q_ways, .int 2])), (q_ahead, .inl (k 0, 5, .inl (upd hsz 1 1))), (q_ways, .inl (k 0, 32, .inl (wf)))] s.heap := hP
  refine lv_iconst (v := 1) hx hb dX2_howMany_0 (by decide) ?_
  refine lv_aload_n hx hb dX2_howMany_1 rfl (lv_at hl 0 rfl) ?_
  refine va_get (D := D) (ci := 1) (v := .int 2) (C := RX2) (T := TX2) (N := 3) hx hb hts hiX2 hown hK hP 0 rfl rfl 2 (by decide) fl24 (fun _ h9 => h9) rfl dX2_howMany_2 ?_
  refine lv_ishl hx hb dX2_howMany_5 ?_
  refine hs_topi 4 (by first | rfl | decide +kernel) ?_
  refine lv_iconst (v := 1) hx hb dX2_howMany_6 (by decide) ?_
  refine lv_isub hx hb dX2_howMany_7 ?_
  refine hs_topi 3 (by first | rfl | decide +kernel) ?_
  refine lv_istore_n (lv' := [(1, .int 3), (0, .ref q)]) hx hb dX2_howMany_8 rfl hl (by decide) rfl (fun ls hl => ?_)
  refine lv_aload_n hx hb dX2_howMany_9 rfl (lv_at hl 1 rfl) ?_
  refine va_get (D := D) (ci := 1) (v := .ref q_ways) (C := RX2) (T := TX2) (N := 3) hx hb hts hiX2 hown hK hP 0 rfl rfl 1 (by decide) fl15 (fun _ h9 => h9) rfl dX2_howMany_10 ?_
  refine lv_iconst (v := 0) hx hb dX2_howMany_13 (by decide) ?_
  refine lv_iconst (v := 1) hx hb dX2_howMany_14 (by decide) ?_
  refine va_iast hx hb hK hP hD hS 2 0 rfl rfl (hs_in (by decide)) dX2_howMany_15 (fun H locs hP hD hS => ?_)
  have hP : va_P D vwCl [(q, .inr (1, [.ref q_ahead, .ref q_ways, .int 2])), (q_ahead, .inl (k 0, 5, .inl (upd hsz 1 1))), (q_ways, .inl (k 0, 32, .inl (upd wf 0 1)))] H := hP
  have hD : va_D A [(q, .inr (1, [.ref q_ahead, .ref q_ways, .int 2])), (q_ahead, .inl (k 0, 5, .inl (upd hsz 1 1))), (q_ways, .inl (k 0, 32, .inl (upd wf 0 1)))] := hD
  refine lv_iconst (v := 1) hx hb dX2_howMany_16 (by decide) ?_
  refine lv_istore_n (lv' := [(2, .int 1), (1, .int 3), (0, .ref q)]) hx hb dX2_howMany_17 rfl hl (by decide) rfl (fun ls hl => ?_)
  refine lv_iload_n hx hb dX2_howMany_18 rfl (lv_at hl 0 rfl) ?_
  refine lv_iload_n hx hb dX2_howMany_19 rfl (lv_at hl 1 rfl) ?_
  refine lv_icmp_gt (tgt := 93) hx hb dX2_howMany_20 (by decide) (fun c_1 => absurd c_1 (by decide)) (fun c_1 => ?_)
  refine lv_iconst (v := 0) hx hb dX2_howMany_23 (by decide) ?_
  refine lv_istore_n (lv' := [(3, .int 0), (2, .int 1), (1, .int 3), (0, .ref q)]) hx hb dX2_howMany_24 rfl hl (by decide) rfl (fun ls hl => ?_)
  refine lv_iconst (v := 0) hx hb dX2_howMany_25 (by decide) ?_
  refine lv_istore (lv' := [(4, .int 0), (3, .int 0), (2, .int 1), (1, .int 3), (0, .ref q)]) hx hb dX2_howMany_26 hl (by decide) rfl (fun ls hl => ?_)
  refine lv_iload hx hb dX2_howMany_28 (lv_at hl 0 rfl) ?_
  refine lv_aload_n hx hb dX2_howMany_30 rfl (lv_at hl 4 rfl) ?_
  refine va_get (D := D) (ci := 1) (v := .int 2) (C := RX2) (T := TX2) (N := 3) hx hb hts hiX2 hown hK hP 0 rfl rfl 2 (by decide) fl24 (fun _ h9 => h9) rfl dX2_howMany_31 ?_
  refine lv_icmp_ge (tgt := 80) hx hb dX2_howMany_34 (by decide) (fun c_2 => absurd c_2 (by decide)) (fun c_2 => ?_)
  refine lv_iload_n hx hb dX2_howMany_37 rfl (lv_at hl 2 rfl) ?_
  refine lv_iconst (v := 1) hx hb dX2_howMany_38 (by decide) ?_
  refine lv_iload hx hb dX2_howMany_39 (lv_at hl 0 rfl) ?_
  refine lv_ishl hx hb dX2_howMany_41 ?_
  refine hs_topi 1 (by first | rfl | decide +kernel) ?_
  refine lv_iconst (v := (-1)) hx hb dX2_howMany_42 (by decide) ?_
  refine lv_ixor hx hb dX2_howMany_43 ?_
  refine hs_topi (-2) (by first | rfl | decide +kernel) ?_
  refine lv_iand hx hb dX2_howMany_44 ?_
  refine hs_topi 0 (by first | rfl | decide +kernel) ?_
  refine lv_istore (lv' := [(5, .int 0), (4, .int 0), (3, .int 0), (2, .int 1), (1, .int 3), (0, .ref q)]) hx hb dX2_howMany_45 hl (by decide) rfl (fun ls hl => ?_)
  refine lv_iload hx hb dX2_howMany_47 (lv_at hl 0 rfl) ?_
  refine lv_iload_n hx hb dX2_howMany_49 rfl (lv_at hl 3 rfl) ?_
  refine lv_icmp_eq (tgt := 74) hx hb dX2_howMany_50 (by decide) (fun c_3 => absurd c_3 (by decide)) (fun c_3 => ?_)
  refine lv_aload_n hx hb dX2_howMany_53 rfl (lv_at hl 5 rfl) ?_
  refine lv_iload hx hb dX2_howMany_54 (lv_at hl 1 rfl) ?_
  refine lv_iload hx hb dX2_howMany_56 (lv_at hl 0 rfl) ?_
  refine hs_ci (va_runV (As := [.int 0, .int 0]) (rest := []) ⟨hx, hb, hml, hown, hts⟩ (c_mayCome l D k _ q q_ahead q_ways 2 0 0 (upd hsz 1 1) (hs_in (by decide))) (cwV 2 hts gX2_howMany_X2_mayCome rfl rfl rfl (by decide +kernel) ⟨Nat.le_of_ble_eq_true rfl, Nat.le_of_ble_eq_true rfl⟩) (hs_preV hK hN (hs_subP (w := [(q, .inr (1, [.ref q_ahead, .ref q_ways, .int 2])), (q_ahead, .inl (k 0, 5, .inl (upd hsz 1 1)))]) hP [0, 1] rfl) (hD.sub (ws' := [(q, .inr (1, [.ref q_ahead, .ref q_ways, .int 2])), (q_ahead, .inl (k 0, 5, .inl (upd hsz 1 1)))]) [0, 1] (by decide) rfl) (ci := 1) (q0 := 0) rfl rfl) rfl rfl hl.1 rfl (lv_room (Nat.le_of_ble_eq_true rfl)) dX2_howMany_58 ⟨Nat.le_of_ble_eq_true rfl, Nat.le_of_ble_eq_true rfl⟩) hP hD hS hA [0, 1] [2] [(q_ways, .inl (k 0, 32, .inl (upd wf 0 1)))] rfl rfl (by decide) (by decide) [1, 2, 0] (fun u_6 => [(q, .inr (1, [.ref q_ahead, .ref q_ways, .int 2])), (q_ahead, .inl (k 0, 5, .inl (upd hsz 1 1))), (q_ways, .inl (k 0, 32, .inl (upd wf 0 1)))]) (fun _ => rfl) (by decide) (fun r_4 u_6 H locs hw_5 hP hD hS => ?_)
  have hP : va_P D vwCl [(q, .inr (1, [.ref q_ahead, .ref q_ways, .int 2])), (q_ahead, .inl (k 0, 5, .inl (upd hsz 1 1))), (q_ways, .inl (k 0, 32, .inl (upd wf 0 1)))] H := hP
  have hD : va_D A [(q, .inr (1, [.ref q_ahead, .ref q_ways, .int 2])), (q_ahead, .inl (k 0, 5, .inl (upd hsz 1 1))), (q_ways, .inl (k 0, 32, .inl (upd wf 0 1)))] := hD
  refine hs_topi 1 (hw_5.trans (by first | rfl | decide +kernel | rfl)) ?_
  refine lv_if_eq (tgt := 74) hx hb dX2_howMany_61 (by decide) (fun c_7 => absurd c_7 (by decide)) (fun c_7 => ?_)
  refine lv_iload_n hx hb dX2_howMany_64 rfl (lv_at hl 2 rfl) ?_
  refine lv_aload_n hx hb dX2_howMany_65 rfl (lv_at hl 5 rfl) ?_
  refine va_get (D := D) (ci := 1) (v := .ref q_ways) (C := RX2) (T := TX2) (N := 3) hx hb hts hiX2 hown hK hP 0 rfl rfl 1 (by decide) fl15 (fun _ h9 => h9) rfl dX2_howMany_66 ?_
  refine lv_iload hx hb dX2_howMany_69 (lv_at hl 0 rfl) ?_
  refine va_iald hx hb hK hP 2 0 rfl rfl (hs_in (by decide)) dX2_howMany_71 ?_
  refine hs_topi 1 (by first | rfl | decide +kernel) ?_
  refine lv_iadd hx hb dX2_howMany_72 ?_
  refine hs_topi 1 (by first | rfl | decide +kernel) ?_
  refine lv_istore_n (lv' := [(3, .int 1), (5, .int 0), (4, .int 0), (2, .int 1), (1, .int 3), (0, .ref q)]) hx hb dX2_howMany_73 rfl hl (by decide) rfl (fun ls hl => ?_)
  refine lv_iinc (v := 1) (lv' := [(4, .int 1), (3, .int 1), (5, .int 0), (2, .int 1), (1, .int 3), (0, .ref q)]) hx hb dX2_howMany_74 hl (k := 2) rfl (by decide) (by decide) rfl (fun ls hl => ?_)
  refine lv_goto (tgt := 28) hx hb dX2_howMany_77 (by decide) ?_
  refine lv_iload hx hb dX2_howMany_28 (lv_at hl 0 rfl) ?_
  refine lv_aload_n hx hb dX2_howMany_30 rfl (lv_at hl 5 rfl) ?_
  refine va_get (D := D) (ci := 1) (v := .int 2) (C := RX2) (T := TX2) (N := 3) hx hb hts hiX2 hown hK hP 0 rfl rfl 2 (by decide) fl24 (fun _ h9 => h9) rfl dX2_howMany_31 ?_
  refine lv_icmp_ge (tgt := 80) hx hb dX2_howMany_34 (by decide) (fun c_8 => absurd c_8 (by decide)) (fun c_8 => ?_)
  refine lv_iload_n hx hb dX2_howMany_37 rfl (lv_at hl 3 rfl) ?_
  refine lv_iconst (v := 1) hx hb dX2_howMany_38 (by decide) ?_
  refine lv_iload hx hb dX2_howMany_39 (lv_at hl 0 rfl) ?_
  refine lv_ishl hx hb dX2_howMany_41 ?_
  refine hs_topi 2 (by first | rfl | decide +kernel) ?_
  refine lv_iconst (v := (-1)) hx hb dX2_howMany_42 (by decide) ?_
  refine lv_ixor hx hb dX2_howMany_43 ?_
  refine hs_topi (-3) (by first | rfl | decide +kernel) ?_
  refine lv_iand hx hb dX2_howMany_44 ?_
  refine hs_topi 1 (by first | rfl | decide +kernel) ?_
  refine lv_istore (lv' := [(5, .int 1), (4, .int 1), (3, .int 1), (2, .int 1), (1, .int 3), (0, .ref q)]) hx hb dX2_howMany_45 hl (by decide) rfl (fun ls hl => ?_)
  refine lv_iload hx hb dX2_howMany_47 (lv_at hl 0 rfl) ?_
  refine lv_iload_n hx hb dX2_howMany_49 rfl (lv_at hl 3 rfl) ?_
  refine lv_icmp_eq (tgt := 74) hx hb dX2_howMany_50 (by decide) (fun c_9 => ?_) (fun c_9 => absurd c_9 (by decide))
  refine lv_iinc (v := 2) (lv' := [(4, .int 2), (5, .int 1), (3, .int 1), (2, .int 1), (1, .int 3), (0, .ref q)]) hx hb dX2_howMany_74 hl (k := 1) rfl (by decide) (by decide) rfl (fun ls hl => ?_)
  refine lv_goto (tgt := 28) hx hb dX2_howMany_77 (by decide) ?_
  refine lv_iload hx hb dX2_howMany_28 (lv_at hl 0 rfl) ?_
  refine lv_aload_n hx hb dX2_howMany_30 rfl (lv_at hl 5 rfl) ?_
  refine va_get (D := D) (ci := 1) (v := .int 2) (C := RX2) (T := TX2) (N := 3) hx hb hts hiX2 hown hK hP 0 rfl rfl 2 (by decide) fl24 (fun _ h9 => h9) rfl dX2_howMany_31 ?_
  refine lv_icmp_ge (tgt := 80) hx hb dX2_howMany_34 (by decide) (fun c_10 => ?_) (fun c_10 => absurd c_10 (by decide))
  refine lv_aload_n hx hb dX2_howMany_80 rfl (lv_at hl 5 rfl) ?_
  refine va_get (D := D) (ci := 1) (v := .ref q_ways) (C := RX2) (T := TX2) (N := 3) hx hb hts hiX2 hown hK hP 0 rfl rfl 1 (by decide) fl15 (fun _ h9 => h9) rfl dX2_howMany_81 ?_
  refine lv_iload_n hx hb dX2_howMany_84 rfl (lv_at hl 3 rfl) ?_
  refine lv_iload_n hx hb dX2_howMany_85 rfl (lv_at hl 2 rfl) ?_
  refine va_iast hx hb hK hP hD hS 2 0 rfl rfl (hs_in (by decide)) dX2_howMany_86 (fun H locs hP hD hS => ?_)
  have hP : va_P D vwCl [(q, .inr (1, [.ref q_ahead, .ref q_ways, .int 2])), (q_ahead, .inl (k 0, 5, .inl (upd hsz 1 1))), (q_ways, .inl (k 0, 32, .inl (upd (upd wf 0 1) 1 1)))] H := hP
  have hD : va_D A [(q, .inr (1, [.ref q_ahead, .ref q_ways, .int 2])), (q_ahead, .inl (k 0, 5, .inl (upd hsz 1 1))), (q_ways, .inl (k 0, 32, .inl (upd (upd wf 0 1) 1 1)))] := hD
  refine lv_iinc (v := 2) (lv' := [(2, .int 2), (4, .int 2), (5, .int 1), (3, .int 1), (1, .int 3), (0, .ref q)]) hx hb dX2_howMany_87 hl (k := 3) rfl (by decide) (by decide) rfl (fun ls hl => ?_)
  refine lv_goto (tgt := 18) hx hb dX2_howMany_90 (by decide) ?_
  refine lv_iload_n hx hb dX2_howMany_18 rfl (lv_at hl 0 rfl) ?_
  refine lv_iload_n hx hb dX2_howMany_19 rfl (lv_at hl 4 rfl) ?_
  refine lv_icmp_gt (tgt := 93) hx hb dX2_howMany_20 (by decide) (fun c_11 => absurd c_11 (by decide)) (fun c_11 => ?_)
  refine lv_iconst (v := 0) hx hb dX2_howMany_23 (by decide) ?_
  refine lv_istore_n (lv' := [(3, .int 0), (2, .int 2), (4, .int 2), (5, .int 1), (1, .int 3), (0, .ref q)]) hx hb dX2_howMany_24 rfl hl (by decide) rfl (fun ls hl => ?_)
  refine lv_iconst (v := 0) hx hb dX2_howMany_25 (by decide) ?_
  refine lv_istore (lv' := [(4, .int 0), (3, .int 0), (2, .int 2), (5, .int 1), (1, .int 3), (0, .ref q)]) hx hb dX2_howMany_26 hl (by decide) rfl (fun ls hl => ?_)
  refine lv_iload hx hb dX2_howMany_28 (lv_at hl 0 rfl) ?_
  refine lv_aload_n hx hb dX2_howMany_30 rfl (lv_at hl 5 rfl) ?_
  refine va_get (D := D) (ci := 1) (v := .int 2) (C := RX2) (T := TX2) (N := 3) hx hb hts hiX2 hown hK hP 0 rfl rfl 2 (by decide) fl24 (fun _ h9 => h9) rfl dX2_howMany_31 ?_
  refine lv_icmp_ge (tgt := 80) hx hb dX2_howMany_34 (by decide) (fun c_12 => absurd c_12 (by decide)) (fun c_12 => ?_)
  refine lv_iload_n hx hb dX2_howMany_37 rfl (lv_at hl 2 rfl) ?_
  refine lv_iconst (v := 1) hx hb dX2_howMany_38 (by decide) ?_
  refine lv_iload hx hb dX2_howMany_39 (lv_at hl 0 rfl) ?_
  refine lv_ishl hx hb dX2_howMany_41 ?_
  refine hs_topi 1 (by first | rfl | decide +kernel) ?_
  refine lv_iconst (v := (-1)) hx hb dX2_howMany_42 (by decide) ?_
  refine lv_ixor hx hb dX2_howMany_43 ?_
  refine hs_topi (-2) (by first | rfl | decide +kernel) ?_
  refine lv_iand hx hb dX2_howMany_44 ?_
  refine hs_topi 2 (by first | rfl | decide +kernel) ?_
  refine lv_istore (lv' := [(5, .int 2), (4, .int 0), (3, .int 0), (2, .int 2), (1, .int 3), (0, .ref q)]) hx hb dX2_howMany_45 hl (by decide) rfl (fun ls hl => ?_)
  refine lv_iload hx hb dX2_howMany_47 (lv_at hl 0 rfl) ?_
  refine lv_iload_n hx hb dX2_howMany_49 rfl (lv_at hl 3 rfl) ?_
  refine lv_icmp_eq (tgt := 74) hx hb dX2_howMany_50 (by decide) (fun c_13 => ?_) (fun c_13 => absurd c_13 (by decide))
  refine lv_iinc (v := 1) (lv' := [(4, .int 1), (5, .int 2), (3, .int 0), (2, .int 2), (1, .int 3), (0, .ref q)]) hx hb dX2_howMany_74 hl (k := 1) rfl (by decide) (by decide) rfl (fun ls hl => ?_)
  refine lv_goto (tgt := 28) hx hb dX2_howMany_77 (by decide) ?_
  refine lv_iload hx hb dX2_howMany_28 (lv_at hl 0 rfl) ?_
  refine lv_aload_n hx hb dX2_howMany_30 rfl (lv_at hl 5 rfl) ?_
  refine va_get (D := D) (ci := 1) (v := .int 2) (C := RX2) (T := TX2) (N := 3) hx hb hts hiX2 hown hK hP 0 rfl rfl 2 (by decide) fl24 (fun _ h9 => h9) rfl dX2_howMany_31 ?_
  refine lv_icmp_ge (tgt := 80) hx hb dX2_howMany_34 (by decide) (fun c_14 => absurd c_14 (by decide)) (fun c_14 => ?_)
  refine lv_iload_n hx hb dX2_howMany_37 rfl (lv_at hl 3 rfl) ?_
  refine lv_iconst (v := 1) hx hb dX2_howMany_38 (by decide) ?_
  refine lv_iload hx hb dX2_howMany_39 (lv_at hl 0 rfl) ?_
  refine lv_ishl hx hb dX2_howMany_41 ?_
  refine hs_topi 2 (by first | rfl | decide +kernel) ?_
  refine lv_iconst (v := (-1)) hx hb dX2_howMany_42 (by decide) ?_
  refine lv_ixor hx hb dX2_howMany_43 ?_
  refine hs_topi (-3) (by first | rfl | decide +kernel) ?_
  refine lv_iand hx hb dX2_howMany_44 ?_
  refine hs_topi 0 (by first | rfl | decide +kernel) ?_
  refine lv_istore (lv' := [(5, .int 0), (4, .int 1), (3, .int 0), (2, .int 2), (1, .int 3), (0, .ref q)]) hx hb dX2_howMany_45 hl (by decide) rfl (fun ls hl => ?_)
  refine lv_iload hx hb dX2_howMany_47 (lv_at hl 0 rfl) ?_
  refine lv_iload_n hx hb dX2_howMany_49 rfl (lv_at hl 3 rfl) ?_
  refine lv_icmp_eq (tgt := 74) hx hb dX2_howMany_50 (by decide) (fun c_15 => absurd c_15 (by decide)) (fun c_15 => ?_)
  refine lv_aload_n hx hb dX2_howMany_53 rfl (lv_at hl 5 rfl) ?_
  refine lv_iload hx hb dX2_howMany_54 (lv_at hl 1 rfl) ?_
  refine lv_iload hx hb dX2_howMany_56 (lv_at hl 0 rfl) ?_
  refine hs_ci (va_runV (As := [.int 1, .int 0]) (rest := []) ⟨hx, hb, hml, hown, hts⟩ (c_mayCome l D k _ q q_ahead q_ways 2 1 0 (upd hsz 1 1) (hs_in (by decide))) (cwV 2 hts gX2_howMany_X2_mayCome rfl rfl rfl (by decide +kernel) ⟨Nat.le_of_ble_eq_true rfl, Nat.le_of_ble_eq_true rfl⟩) (hs_preV hK hN (hs_subP (w := [(q, .inr (1, [.ref q_ahead, .ref q_ways, .int 2])), (q_ahead, .inl (k 0, 5, .inl (upd hsz 1 1)))]) hP [0, 1] rfl) (hD.sub (ws' := [(q, .inr (1, [.ref q_ahead, .ref q_ways, .int 2])), (q_ahead, .inl (k 0, 5, .inl (upd hsz 1 1)))]) [0, 1] (by decide) rfl) (ci := 1) (q0 := 0) rfl rfl) rfl rfl hl.1 rfl (lv_room (Nat.le_of_ble_eq_true rfl)) dX2_howMany_58 ⟨Nat.le_of_ble_eq_true rfl, Nat.le_of_ble_eq_true rfl⟩) hP hD hS hA [0, 1] [2] [(q_ways, .inl (k 0, 32, .inl (upd (upd wf 0 1) 1 1)))] rfl rfl (by decide) (by decide) [1, 2, 0] (fun u_18 => [(q, .inr (1, [.ref q_ahead, .ref q_ways, .int 2])), (q_ahead, .inl (k 0, 5, .inl (upd hsz 1 1))), (q_ways, .inl (k 0, 32, .inl (upd (upd wf 0 1) 1 1)))]) (fun _ => rfl) (by decide) (fun r_16 u_18 H locs hw_17 hP hD hS => ?_)
  have hP : va_P D vwCl [(q, .inr (1, [.ref q_ahead, .ref q_ways, .int 2])), (q_ahead, .inl (k 0, 5, .inl (upd hsz 1 1))), (q_ways, .inl (k 0, 32, .inl (upd (upd wf 0 1) 1 1)))] H := hP
  have hD : va_D A [(q, .inr (1, [.ref q_ahead, .ref q_ways, .int 2])), (q_ahead, .inl (k 0, 5, .inl (upd hsz 1 1))), (q_ways, .inl (k 0, 32, .inl (upd (upd wf 0 1) 1 1)))] := hD
  refine hs_topi 0 (hw_17.trans (by first | rfl | decide +kernel | rfl)) ?_
  refine lv_if_eq (tgt := 74) hx hb dX2_howMany_61 (by decide) (fun c_19 => ?_) (fun c_19 => absurd c_19 (by decide))
  refine lv_iinc (v := 2) (lv' := [(4, .int 2), (5, .int 0), (3, .int 0), (2, .int 2), (1, .int 3), (0, .ref q)]) hx hb dX2_howMany_74 hl (k := 1) rfl (by decide) (by decide) rfl (fun ls hl => ?_)
  refine lv_goto (tgt := 28) hx hb dX2_howMany_77 (by decide) ?_
  refine lv_iload hx hb dX2_howMany_28 (lv_at hl 0 rfl) ?_
  refine lv_aload_n hx hb dX2_howMany_30 rfl (lv_at hl 5 rfl) ?_
  refine va_get (D := D) (ci := 1) (v := .int 2) (C := RX2) (T := TX2) (N := 3) hx hb hts hiX2 hown hK hP 0 rfl rfl 2 (by decide) fl24 (fun _ h9 => h9) rfl dX2_howMany_31 ?_
  refine lv_icmp_ge (tgt := 80) hx hb dX2_howMany_34 (by decide) (fun c_20 => ?_) (fun c_20 => absurd c_20 (by decide))
  refine lv_aload_n hx hb dX2_howMany_80 rfl (lv_at hl 5 rfl) ?_
  refine va_get (D := D) (ci := 1) (v := .ref q_ways) (C := RX2) (T := TX2) (N := 3) hx hb hts hiX2 hown hK hP 0 rfl rfl 1 (by decide) fl15 (fun _ h9 => h9) rfl dX2_howMany_81 ?_
  refine lv_iload_n hx hb dX2_howMany_84 rfl (lv_at hl 3 rfl) ?_
  refine lv_iload_n hx hb dX2_howMany_85 rfl (lv_at hl 2 rfl) ?_
  refine va_iast hx hb hK hP hD hS 2 0 rfl rfl (hs_in (by decide)) dX2_howMany_86 (fun H locs hP hD hS => ?_)
  have hP : va_P D vwCl [(q, .inr (1, [.ref q_ahead, .ref q_ways, .int 2])), (q_ahead, .inl (k 0, 5, .inl (upd hsz 1 1))), (q_ways, .inl (k 0, 32, .inl (upd (upd (upd wf 0 1) 1 1) 2 0)))] H := hP
  have hD : va_D A [(q, .inr (1, [.ref q_ahead, .ref q_ways, .int 2])), (q_ahead, .inl (k 0, 5, .inl (upd hsz 1 1))), (q_ways, .inl (k 0, 32, .inl (upd (upd (upd wf 0 1) 1 1) 2 0)))] := hD
  refine lv_iinc (v := 3) (lv' := [(2, .int 3), (4, .int 2), (5, .int 0), (3, .int 0), (1, .int 3), (0, .ref q)]) hx hb dX2_howMany_87 hl (k := 3) rfl (by decide) (by decide) rfl (fun ls hl => ?_)
  refine lv_goto (tgt := 18) hx hb dX2_howMany_90 (by decide) ?_
  refine lv_iload_n hx hb dX2_howMany_18 rfl (lv_at hl 0 rfl) ?_
  refine lv_iload_n hx hb dX2_howMany_19 rfl (lv_at hl 4 rfl) ?_
  refine lv_icmp_gt (tgt := 93) hx hb dX2_howMany_20 (by decide) (fun c_21 => absurd c_21 (by decide)) (fun c_21 => ?_)
  refine lv_iconst (v := 0) hx hb dX2_howMany_23 (by decide) ?_
  refine lv_istore_n (lv' := [(3, .int 0), (2, .int 3), (4, .int 2), (5, .int 0), (1, .int 3), (0, .ref q)]) hx hb dX2_howMany_24 rfl hl (by decide) rfl (fun ls hl => ?_)
  refine lv_iconst (v := 0) hx hb dX2_howMany_25 (by decide) ?_
  refine lv_istore (lv' := [(4, .int 0), (3, .int 0), (2, .int 3), (5, .int 0), (1, .int 3), (0, .ref q)]) hx hb dX2_howMany_26 hl (by decide) rfl (fun ls hl => ?_)
  refine lv_iload hx hb dX2_howMany_28 (lv_at hl 0 rfl) ?_
  refine lv_aload_n hx hb dX2_howMany_30 rfl (lv_at hl 5 rfl) ?_
  refine va_get (D := D) (ci := 1) (v := .int 2) (C := RX2) (T := TX2) (N := 3) hx hb hts hiX2 hown hK hP 0 rfl rfl 2 (by decide) fl24 (fun _ h9 => h9) rfl dX2_howMany_31 ?_
  refine lv_icmp_ge (tgt := 80) hx hb dX2_howMany_34 (by decide) (fun c_22 => absurd c_22 (by decide)) (fun c_22 => ?_)
  refine lv_iload_n hx hb dX2_howMany_37 rfl (lv_at hl 2 rfl) ?_
  refine lv_iconst (v := 1) hx hb dX2_howMany_38 (by decide) ?_
  refine lv_iload hx hb dX2_howMany_39 (lv_at hl 0 rfl) ?_
  refine lv_ishl hx hb dX2_howMany_41 ?_
  refine hs_topi 1 (by first | rfl | decide +kernel) ?_
  refine lv_iconst (v := (-1)) hx hb dX2_howMany_42 (by decide) ?_
  refine lv_ixor hx hb dX2_howMany_43 ?_
  refine hs_topi (-2) (by first | rfl | decide +kernel) ?_
  refine lv_iand hx hb dX2_howMany_44 ?_
  refine hs_topi 2 (by first | rfl | decide +kernel) ?_
  refine lv_istore (lv' := [(5, .int 2), (4, .int 0), (3, .int 0), (2, .int 3), (1, .int 3), (0, .ref q)]) hx hb dX2_howMany_45 hl (by decide) rfl (fun ls hl => ?_)
  refine lv_iload hx hb dX2_howMany_47 (lv_at hl 0 rfl) ?_
  refine lv_iload_n hx hb dX2_howMany_49 rfl (lv_at hl 3 rfl) ?_
  refine lv_icmp_eq (tgt := 74) hx hb dX2_howMany_50 (by decide) (fun c_23 => absurd c_23 (by decide)) (fun c_23 => ?_)
  refine lv_aload_n hx hb dX2_howMany_53 rfl (lv_at hl 5 rfl) ?_
  refine lv_iload hx hb dX2_howMany_54 (lv_at hl 1 rfl) ?_
  refine lv_iload hx hb dX2_howMany_56 (lv_at hl 0 rfl) ?_
  refine hs_ci (va_runV (As := [.int 0, .int 2]) (rest := []) ⟨hx, hb, hml, hown, hts⟩ (c_mayCome l D k _ q q_ahead q_ways 2 0 2 (upd hsz 1 1) (hs_in (by decide))) (cwV 2 hts gX2_howMany_X2_mayCome rfl rfl rfl (by decide +kernel) ⟨Nat.le_of_ble_eq_true rfl, Nat.le_of_ble_eq_true rfl⟩) (hs_preV hK hN (hs_subP (w := [(q, .inr (1, [.ref q_ahead, .ref q_ways, .int 2])), (q_ahead, .inl (k 0, 5, .inl (upd hsz 1 1)))]) hP [0, 1] rfl) (hD.sub (ws' := [(q, .inr (1, [.ref q_ahead, .ref q_ways, .int 2])), (q_ahead, .inl (k 0, 5, .inl (upd hsz 1 1)))]) [0, 1] (by decide) rfl) (ci := 1) (q0 := 0) rfl rfl) rfl rfl hl.1 rfl (lv_room (Nat.le_of_ble_eq_true rfl)) dX2_howMany_58 ⟨Nat.le_of_ble_eq_true rfl, Nat.le_of_ble_eq_true rfl⟩) hP hD hS hA [0, 1] [2] [(q_ways, .inl (k 0, 32, .inl (upd (upd (upd wf 0 1) 1 1) 2 0)))] rfl rfl (by decide) (by decide) [1, 2, 0] (fun u_26 => [(q, .inr (1, [.ref q_ahead, .ref q_ways, .int 2])), (q_ahead, .inl (k 0, 5, .inl (upd hsz 1 1))), (q_ways, .inl (k 0, 32, .inl (upd (upd (upd wf 0 1) 1 1) 2 0)))]) (fun _ => rfl) (by decide) (fun r_24 u_26 H locs hw_25 hP hD hS => ?_)
  have hP : va_P D vwCl [(q, .inr (1, [.ref q_ahead, .ref q_ways, .int 2])), (q_ahead, .inl (k 0, 5, .inl (upd hsz 1 1))), (q_ways, .inl (k 0, 32, .inl (upd (upd (upd wf 0 1) 1 1) 2 0)))] H := hP
  have hD : va_D A [(q, .inr (1, [.ref q_ahead, .ref q_ways, .int 2])), (q_ahead, .inl (k 0, 5, .inl (upd hsz 1 1))), (q_ways, .inl (k 0, 32, .inl (upd (upd (upd wf 0 1) 1 1) 2 0)))] := hD
  refine hs_topi 1 (hw_25.trans (by first | rfl | decide +kernel | rfl)) ?_
  refine lv_if_eq (tgt := 74) hx hb dX2_howMany_61 (by decide) (fun c_27 => absurd c_27 (by decide)) (fun c_27 => ?_)
  refine lv_iload_n hx hb dX2_howMany_64 rfl (lv_at hl 2 rfl) ?_
  refine lv_aload_n hx hb dX2_howMany_65 rfl (lv_at hl 5 rfl) ?_
  refine va_get (D := D) (ci := 1) (v := .ref q_ways) (C := RX2) (T := TX2) (N := 3) hx hb hts hiX2 hown hK hP 0 rfl rfl 1 (by decide) fl15 (fun _ h9 => h9) rfl dX2_howMany_66 ?_
  refine lv_iload hx hb dX2_howMany_69 (lv_at hl 0 rfl) ?_
  refine va_iald hx hb hK hP 2 0 rfl rfl (hs_in (by decide)) dX2_howMany_71 ?_
  refine hs_topi 0 (by first | rfl | decide +kernel) ?_
  refine lv_iadd hx hb dX2_howMany_72 ?_
  refine hs_topi 0 (by first | rfl | decide +kernel) ?_
  refine lv_istore_n (lv' := [(3, .int 0), (5, .int 2), (4, .int 0), (2, .int 3), (1, .int 3), (0, .ref q)]) hx hb dX2_howMany_73 rfl hl (by decide) rfl (fun ls hl => ?_)
  refine lv_iinc (v := 1) (lv' := [(4, .int 1), (3, .int 0), (5, .int 2), (2, .int 3), (1, .int 3), (0, .ref q)]) hx hb dX2_howMany_74 hl (k := 2) rfl (by decide) (by decide) rfl (fun ls hl => ?_)
  refine lv_goto (tgt := 28) hx hb dX2_howMany_77 (by decide) ?_
  refine lv_iload hx hb dX2_howMany_28 (lv_at hl 0 rfl) ?_
  refine lv_aload_n hx hb dX2_howMany_30 rfl (lv_at hl 5 rfl) ?_
  refine va_get (D := D) (ci := 1) (v := .int 2) (C := RX2) (T := TX2) (N := 3) hx hb hts hiX2 hown hK hP 0 rfl rfl 2 (by decide) fl24 (fun _ h9 => h9) rfl dX2_howMany_31 ?_
  refine lv_icmp_ge (tgt := 80) hx hb dX2_howMany_34 (by decide) (fun c_28 => absurd c_28 (by decide)) (fun c_28 => ?_)
  refine lv_iload_n hx hb dX2_howMany_37 rfl (lv_at hl 3 rfl) ?_
  refine lv_iconst (v := 1) hx hb dX2_howMany_38 (by decide) ?_
  refine lv_iload hx hb dX2_howMany_39 (lv_at hl 0 rfl) ?_
  refine lv_ishl hx hb dX2_howMany_41 ?_
  refine hs_topi 2 (by first | rfl | decide +kernel) ?_
  refine lv_iconst (v := (-1)) hx hb dX2_howMany_42 (by decide) ?_
  refine lv_ixor hx hb dX2_howMany_43 ?_
  refine hs_topi (-3) (by first | rfl | decide +kernel) ?_
  refine lv_iand hx hb dX2_howMany_44 ?_
  refine hs_topi 1 (by first | rfl | decide +kernel) ?_
  refine lv_istore (lv' := [(5, .int 1), (4, .int 1), (3, .int 0), (2, .int 3), (1, .int 3), (0, .ref q)]) hx hb dX2_howMany_45 hl (by decide) rfl (fun ls hl => ?_)
  refine lv_iload hx hb dX2_howMany_47 (lv_at hl 0 rfl) ?_
  refine lv_iload_n hx hb dX2_howMany_49 rfl (lv_at hl 3 rfl) ?_
  refine lv_icmp_eq (tgt := 74) hx hb dX2_howMany_50 (by decide) (fun c_29 => absurd c_29 (by decide)) (fun c_29 => ?_)
  refine lv_aload_n hx hb dX2_howMany_53 rfl (lv_at hl 5 rfl) ?_
  refine lv_iload hx hb dX2_howMany_54 (lv_at hl 1 rfl) ?_
  refine lv_iload hx hb dX2_howMany_56 (lv_at hl 0 rfl) ?_
  refine hs_ci (va_runV (As := [.int 1, .int 1]) (rest := []) ⟨hx, hb, hml, hown, hts⟩ (c_mayCome l D k _ q q_ahead q_ways 2 1 1 (upd hsz 1 1) (hs_in (by decide))) (cwV 2 hts gX2_howMany_X2_mayCome rfl rfl rfl (by decide +kernel) ⟨Nat.le_of_ble_eq_true rfl, Nat.le_of_ble_eq_true rfl⟩) (hs_preV hK hN (hs_subP (w := [(q, .inr (1, [.ref q_ahead, .ref q_ways, .int 2])), (q_ahead, .inl (k 0, 5, .inl (upd hsz 1 1)))]) hP [0, 1] rfl) (hD.sub (ws' := [(q, .inr (1, [.ref q_ahead, .ref q_ways, .int 2])), (q_ahead, .inl (k 0, 5, .inl (upd hsz 1 1)))]) [0, 1] (by decide) rfl) (ci := 1) (q0 := 0) rfl rfl) rfl rfl hl.1 rfl (lv_room (Nat.le_of_ble_eq_true rfl)) dX2_howMany_58 ⟨Nat.le_of_ble_eq_true rfl, Nat.le_of_ble_eq_true rfl⟩) hP hD hS hA [0, 1] [2] [(q_ways, .inl (k 0, 32, .inl (upd (upd (upd wf 0 1) 1 1) 2 0)))] rfl rfl (by decide) (by decide) [1, 2, 0] (fun u_32 => [(q, .inr (1, [.ref q_ahead, .ref q_ways, .int 2])), (q_ahead, .inl (k 0, 5, .inl (upd hsz 1 1))), (q_ways, .inl (k 0, 32, .inl (upd (upd (upd wf 0 1) 1 1) 2 0)))]) (fun _ => rfl) (by decide) (fun r_30 u_32 H locs hw_31 hP hD hS => ?_)
  have hP : va_P D vwCl [(q, .inr (1, [.ref q_ahead, .ref q_ways, .int 2])), (q_ahead, .inl (k 0, 5, .inl (upd hsz 1 1))), (q_ways, .inl (k 0, 32, .inl (upd (upd (upd wf 0 1) 1 1) 2 0)))] H := hP
  have hD : va_D A [(q, .inr (1, [.ref q_ahead, .ref q_ways, .int 2])), (q_ahead, .inl (k 0, 5, .inl (upd hsz 1 1))), (q_ways, .inl (k 0, 32, .inl (upd (upd (upd wf 0 1) 1 1) 2 0)))] := hD
  refine hs_topi 1 (hw_31.trans (by first | rfl | decide +kernel | rfl)) ?_
  refine lv_if_eq (tgt := 74) hx hb dX2_howMany_61 (by decide) (fun c_33 => absurd c_33 (by decide)) (fun c_33 => ?_)
  refine lv_iload_n hx hb dX2_howMany_64 rfl (lv_at hl 2 rfl) ?_
  refine lv_aload_n hx hb dX2_howMany_65 rfl (lv_at hl 5 rfl) ?_
  refine va_get (D := D) (ci := 1) (v := .ref q_ways) (C := RX2) (T := TX2) (N := 3) hx hb hts hiX2 hown hK hP 0 rfl rfl 1 (by decide) fl15 (fun _ h9 => h9) rfl dX2_howMany_66 ?_
  refine lv_iload hx hb dX2_howMany_69 (lv_at hl 0 rfl) ?_
  refine va_iald hx hb hK hP 2 0 rfl rfl (hs_in (by decide)) dX2_howMany_71 ?_
  refine hs_topi 1 (by first | rfl | decide +kernel) ?_
  refine lv_iadd hx hb dX2_howMany_72 ?_
  refine hs_topi 1 (by first | rfl | decide +kernel) ?_
  refine lv_istore_n (lv' := [(3, .int 1), (5, .int 1), (4, .int 1), (2, .int 3), (1, .int 3), (0, .ref q)]) hx hb dX2_howMany_73 rfl hl (by decide) rfl (fun ls hl => ?_)
  refine lv_iinc (v := 2) (lv' := [(4, .int 2), (3, .int 1), (5, .int 1), (2, .int 3), (1, .int 3), (0, .ref q)]) hx hb dX2_howMany_74 hl (k := 2) rfl (by decide) (by decide) rfl (fun ls hl => ?_)
  refine lv_goto (tgt := 28) hx hb dX2_howMany_77 (by decide) ?_
  refine lv_iload hx hb dX2_howMany_28 (lv_at hl 0 rfl) ?_
  refine lv_aload_n hx hb dX2_howMany_30 rfl (lv_at hl 5 rfl) ?_
  refine va_get (D := D) (ci := 1) (v := .int 2) (C := RX2) (T := TX2) (N := 3) hx hb hts hiX2 hown hK hP 0 rfl rfl 2 (by decide) fl24 (fun _ h9 => h9) rfl dX2_howMany_31 ?_
  refine lv_icmp_ge (tgt := 80) hx hb dX2_howMany_34 (by decide) (fun c_34 => ?_) (fun c_34 => absurd c_34 (by decide))
  refine lv_aload_n hx hb dX2_howMany_80 rfl (lv_at hl 5 rfl) ?_
  refine va_get (D := D) (ci := 1) (v := .ref q_ways) (C := RX2) (T := TX2) (N := 3) hx hb hts hiX2 hown hK hP 0 rfl rfl 1 (by decide) fl15 (fun _ h9 => h9) rfl dX2_howMany_81 ?_
  refine lv_iload_n hx hb dX2_howMany_84 rfl (lv_at hl 3 rfl) ?_
  refine lv_iload_n hx hb dX2_howMany_85 rfl (lv_at hl 1 rfl) ?_
  refine va_iast hx hb hK hP hD hS 2 0 rfl rfl (hs_in (by decide)) dX2_howMany_86 (fun H locs hP hD hS => ?_)
  have hP : va_P D vwCl [(q, .inr (1, [.ref q_ahead, .ref q_ways, .int 2])), (q_ahead, .inl (k 0, 5, .inl (upd hsz 1 1))), (q_ways, .inl (k 0, 32, .inl (upd (upd (upd (upd wf 0 1) 1 1) 2 0) 3 1)))] H := hP
  have hD : va_D A [(q, .inr (1, [.ref q_ahead, .ref q_ways, .int 2])), (q_ahead, .inl (k 0, 5, .inl (upd hsz 1 1))), (q_ways, .inl (k 0, 32, .inl (upd (upd (upd (upd wf 0 1) 1 1) 2 0) 3 1)))] := hD
  refine lv_iinc (v := 4) (lv' := [(2, .int 4), (4, .int 2), (3, .int 1), (5, .int 1), (1, .int 3), (0, .ref q)]) hx hb dX2_howMany_87 hl (k := 3) rfl (by decide) (by decide) rfl (fun ls hl => ?_)
  refine lv_goto (tgt := 18) hx hb dX2_howMany_90 (by decide) ?_
  refine lv_iload_n hx hb dX2_howMany_18 rfl (lv_at hl 0 rfl) ?_
  refine lv_iload_n hx hb dX2_howMany_19 rfl (lv_at hl 4 rfl) ?_
  refine lv_icmp_gt (tgt := 93) hx hb dX2_howMany_20 (by decide) (fun c_35 => ?_) (fun c_35 => absurd c_35 (by decide))
  refine lv_aload_n hx hb dX2_howMany_93 rfl (lv_at hl 5 rfl) ?_
  refine va_get (D := D) (ci := 1) (v := .ref q_ways) (C := RX2) (T := TX2) (N := 3) hx hb hts hiX2 hown hK hP 0 rfl rfl 1 (by decide) fl15 (fun _ h9 => h9) rfl dX2_howMany_94 ?_
  refine lv_iload_n hx hb dX2_howMany_97 rfl (lv_at hl 4 rfl) ?_
  refine va_iald hx hb hK hP 2 0 rfl rfl (hs_in (by decide)) dX2_howMany_98 ?_
  refine hs_topi 1 (by first | rfl | decide +kernel) ?_
  exact hs_iret hx hb hr hlocks hK hP hD hS () [0, 1, 2] rfl (by decide) dX2_howMany_99 (rfl)

set_option maxHeartbeats 4000000 in
set_option maxRecDepth 100000 in
theorem c_howMany_10 (l : Launch) (D : va_G) (k : Nat → ClassId) (sz : Nat) (q : Nat) (q_ahead : Nat) (q_ways : Nat) (wf : Nat → Int32)  : MI l yX2_howMany wsX2_howMany ({ frames := 1, cells := 0, slots := 0, locals := 22 }) D k [.ref q] [(q, .inr (1, [.ref q_ahead, .ref q_ways, .int 2])), (q_ahead, .inl (k 0, 5, .inl (upd hsz 0 2))), (q_ways, .inl (k 0, 32, .inl (wf)))] sz (fun (r : Int32) (u : Unit) => r = 1) (fun (u : Unit) => [(q, .inr (1, [.ref q_ahead, .ref q_ways, .int 2])), (q_ahead, .inl (k 0, 5, .inl (upd hsz 0 2))), (q_ways, .inl (k 0, 32, .inl (upd (upd (upd (upd wf 0 1) 1 0) 2 1) 3 1)))]) := by
  refine Met.ofW (cc := cX2_howMany) (maxL := 6) (ret := (some .int)) (by decide) rfl ?_
  intro p e s m args below meth c s₁ B hml hv
  obtain ⟨rfl, hsz, hP, hK, hD0, hN⟩ := hv
  have hx := B.exec
  have hb := B.bytes
  have hr := B.returns
  have hlocks := B.notSynchronized
  have hts := atoms_spec (ws := wsX2_howMany) B.pre
  have hown : s.vm.findClass RX2 = some m.cls := findClass_of_methodNamed B.named
  have hiX2 : ∀ w ∈ u_ws RX2 TX2 3, w ∈ wsX2_howMany := by decide +kernel
  have fl24 := hts (.fieldLink RX2 24 "HalfScales$Ranks" "size" "I") (by decide +kernel)
  have fl15 := hts (.fieldLink RX2 15 "HalfScales$Ranks" "ways" "[I") (by decide +kernel)
  subst hsz
  have hD := hD0.self (sz := s.heap.size)
  generalize hAe : va_A [(q, .inr (1, [.ref q_ahead, .ref q_ways, .int 2])), (q_ahead, .inl (k 0, 5, .inl (upd hsz 0 2))), (q_ways, .inl (k 0, 32, .inl (wf)))] s.heap.size = A at hD ⊢
  have hA : ∀ q : Nat, s.heap.size ≤ q → A q := fun q h => by rw [← hAe]; exact Or.inr h
  have hS : va_S A s.heap s.heap [] := va_S.rf
  have hl := lv_entry ([.ref q]) (n := 6) (Nat.le_of_ble_eq_true rfl)
  rw [lg_entry_eq]
  generalize (lg_sl ([.ref q]) ++ List.replicate (6 - (lg_sl ([.ref q])).length) Slot.unset).toArray = ls at hl ⊢
  have hl : lv_has ls 6 [(0, .ref q)] := hl
  have hP : va_P D vwCl [(q, .inr (1, [.ref q_ahead, .ref q_ways, .int 2])), (q_ahead, .inl (k 0, 5, .inl (upd hsz 0 2))), (q_ways, .inl (k 0, 32, .inl (wf)))] s.heap := hP
  refine lv_iconst (v := 1) hx hb dX2_howMany_0 (by decide) ?_
  refine lv_aload_n hx hb dX2_howMany_1 rfl (lv_at hl 0 rfl) ?_
  refine va_get (D := D) (ci := 1) (v := .int 2) (C := RX2) (T := TX2) (N := 3) hx hb hts hiX2 hown hK hP 0 rfl rfl 2 (by decide) fl24 (fun _ h9 => h9) rfl dX2_howMany_2 ?_
  refine lv_ishl hx hb dX2_howMany_5 ?_
  refine hs_topi 4 (by first | rfl | decide +kernel) ?_
  refine lv_iconst (v := 1) hx hb dX2_howMany_6 (by decide) ?_
  refine lv_isub hx hb dX2_howMany_7 ?_
  refine hs_topi 3 (by first | rfl | decide +kernel) ?_
  refine lv_istore_n (lv' := [(1, .int 3), (0, .ref q)]) hx hb dX2_howMany_8 rfl hl (by decide) rfl (fun ls hl => ?_)
  refine lv_aload_n hx hb dX2_howMany_9 rfl (lv_at hl 1 rfl) ?_
  refine va_get (D := D) (ci := 1) (v := .ref q_ways) (C := RX2) (T := TX2) (N := 3) hx hb hts hiX2 hown hK hP 0 rfl rfl 1 (by decide) fl15 (fun _ h9 => h9) rfl dX2_howMany_10 ?_
  refine lv_iconst (v := 0) hx hb dX2_howMany_13 (by decide) ?_
  refine lv_iconst (v := 1) hx hb dX2_howMany_14 (by decide) ?_
  refine va_iast hx hb hK hP hD hS 2 0 rfl rfl (hs_in (by decide)) dX2_howMany_15 (fun H locs hP hD hS => ?_)
  have hP : va_P D vwCl [(q, .inr (1, [.ref q_ahead, .ref q_ways, .int 2])), (q_ahead, .inl (k 0, 5, .inl (upd hsz 0 2))), (q_ways, .inl (k 0, 32, .inl (upd wf 0 1)))] H := hP
  have hD : va_D A [(q, .inr (1, [.ref q_ahead, .ref q_ways, .int 2])), (q_ahead, .inl (k 0, 5, .inl (upd hsz 0 2))), (q_ways, .inl (k 0, 32, .inl (upd wf 0 1)))] := hD
  refine lv_iconst (v := 1) hx hb dX2_howMany_16 (by decide) ?_
  refine lv_istore_n (lv' := [(2, .int 1), (1, .int 3), (0, .ref q)]) hx hb dX2_howMany_17 rfl hl (by decide) rfl (fun ls hl => ?_)
  refine lv_iload_n hx hb dX2_howMany_18 rfl (lv_at hl 0 rfl) ?_
  refine lv_iload_n hx hb dX2_howMany_19 rfl (lv_at hl 1 rfl) ?_
  refine lv_icmp_gt (tgt := 93) hx hb dX2_howMany_20 (by decide) (fun c_1 => absurd c_1 (by decide)) (fun c_1 => ?_)
  refine lv_iconst (v := 0) hx hb dX2_howMany_23 (by decide) ?_
  refine lv_istore_n (lv' := [(3, .int 0), (2, .int 1), (1, .int 3), (0, .ref q)]) hx hb dX2_howMany_24 rfl hl (by decide) rfl (fun ls hl => ?_)
  refine lv_iconst (v := 0) hx hb dX2_howMany_25 (by decide) ?_
  refine lv_istore (lv' := [(4, .int 0), (3, .int 0), (2, .int 1), (1, .int 3), (0, .ref q)]) hx hb dX2_howMany_26 hl (by decide) rfl (fun ls hl => ?_)
  refine lv_iload hx hb dX2_howMany_28 (lv_at hl 0 rfl) ?_
  refine lv_aload_n hx hb dX2_howMany_30 rfl (lv_at hl 4 rfl) ?_
  refine va_get (D := D) (ci := 1) (v := .int 2) (C := RX2) (T := TX2) (N := 3) hx hb hts hiX2 hown hK hP 0 rfl rfl 2 (by decide) fl24 (fun _ h9 => h9) rfl dX2_howMany_31 ?_
  refine lv_icmp_ge (tgt := 80) hx hb dX2_howMany_34 (by decide) (fun c_2 => absurd c_2 (by decide)) (fun c_2 => ?_)
  refine lv_iload_n hx hb dX2_howMany_37 rfl (lv_at hl 2 rfl) ?_
  refine lv_iconst (v := 1) hx hb dX2_howMany_38 (by decide) ?_
  refine lv_iload hx hb dX2_howMany_39 (lv_at hl 0 rfl) ?_
  refine lv_ishl hx hb dX2_howMany_41 ?_
  refine hs_topi 1 (by first | rfl | decide +kernel) ?_
  refine lv_iconst (v := (-1)) hx hb dX2_howMany_42 (by decide) ?_
  refine lv_ixor hx hb dX2_howMany_43 ?_
  refine hs_topi (-2) (by first | rfl | decide +kernel) ?_
  refine lv_iand hx hb dX2_howMany_44 ?_
  refine hs_topi 0 (by first | rfl | decide +kernel) ?_
  refine lv_istore (lv' := [(5, .int 0), (4, .int 0), (3, .int 0), (2, .int 1), (1, .int 3), (0, .ref q)]) hx hb dX2_howMany_45 hl (by decide) rfl (fun ls hl => ?_)
  refine lv_iload hx hb dX2_howMany_47 (lv_at hl 0 rfl) ?_
  refine lv_iload_n hx hb dX2_howMany_49 rfl (lv_at hl 3 rfl) ?_
  refine lv_icmp_eq (tgt := 74) hx hb dX2_howMany_50 (by decide) (fun c_3 => absurd c_3 (by decide)) (fun c_3 => ?_)
  refine lv_aload_n hx hb dX2_howMany_53 rfl (lv_at hl 5 rfl) ?_
  refine lv_iload hx hb dX2_howMany_54 (lv_at hl 1 rfl) ?_
  refine lv_iload hx hb dX2_howMany_56 (lv_at hl 0 rfl) ?_
  refine hs_ci (va_runV (As := [.int 0, .int 0]) (rest := []) ⟨hx, hb, hml, hown, hts⟩ (c_mayCome l D k _ q q_ahead q_ways 2 0 0 (upd hsz 0 2) (hs_in (by decide))) (cwV 2 hts gX2_howMany_X2_mayCome rfl rfl rfl (by decide +kernel) ⟨Nat.le_of_ble_eq_true rfl, Nat.le_of_ble_eq_true rfl⟩) (hs_preV hK hN (hs_subP (w := [(q, .inr (1, [.ref q_ahead, .ref q_ways, .int 2])), (q_ahead, .inl (k 0, 5, .inl (upd hsz 0 2)))]) hP [0, 1] rfl) (hD.sub (ws' := [(q, .inr (1, [.ref q_ahead, .ref q_ways, .int 2])), (q_ahead, .inl (k 0, 5, .inl (upd hsz 0 2)))]) [0, 1] (by decide) rfl) (ci := 1) (q0 := 0) rfl rfl) rfl rfl hl.1 rfl (lv_room (Nat.le_of_ble_eq_true rfl)) dX2_howMany_58 ⟨Nat.le_of_ble_eq_true rfl, Nat.le_of_ble_eq_true rfl⟩) hP hD hS hA [0, 1] [2] [(q_ways, .inl (k 0, 32, .inl (upd wf 0 1)))] rfl rfl (by decide) (by decide) [1, 2, 0] (fun u_6 => [(q, .inr (1, [.ref q_ahead, .ref q_ways, .int 2])), (q_ahead, .inl (k 0, 5, .inl (upd hsz 0 2))), (q_ways, .inl (k 0, 32, .inl (upd wf 0 1)))]) (fun _ => rfl) (by decide) (fun r_4 u_6 H locs hw_5 hP hD hS => ?_)
  have hP : va_P D vwCl [(q, .inr (1, [.ref q_ahead, .ref q_ways, .int 2])), (q_ahead, .inl (k 0, 5, .inl (upd hsz 0 2))), (q_ways, .inl (k 0, 32, .inl (upd wf 0 1)))] H := hP
  have hD : va_D A [(q, .inr (1, [.ref q_ahead, .ref q_ways, .int 2])), (q_ahead, .inl (k 0, 5, .inl (upd hsz 0 2))), (q_ways, .inl (k 0, 32, .inl (upd wf 0 1)))] := hD
  refine hs_topi 0 (hw_5.trans (by first | rfl | decide +kernel | rfl)) ?_
  refine lv_if_eq (tgt := 74) hx hb dX2_howMany_61 (by decide) (fun c_7 => ?_) (fun c_7 => absurd c_7 (by decide))
  refine lv_iinc (v := 1) (lv' := [(4, .int 1), (5, .int 0), (3, .int 0), (2, .int 1), (1, .int 3), (0, .ref q)]) hx hb dX2_howMany_74 hl (k := 1) rfl (by decide) (by decide) rfl (fun ls hl => ?_)
  refine lv_goto (tgt := 28) hx hb dX2_howMany_77 (by decide) ?_
  refine lv_iload hx hb dX2_howMany_28 (lv_at hl 0 rfl) ?_
  refine lv_aload_n hx hb dX2_howMany_30 rfl (lv_at hl 5 rfl) ?_
  refine va_get (D := D) (ci := 1) (v := .int 2) (C := RX2) (T := TX2) (N := 3) hx hb hts hiX2 hown hK hP 0 rfl rfl 2 (by decide) fl24 (fun _ h9 => h9) rfl dX2_howMany_31 ?_
  refine lv_icmp_ge (tgt := 80) hx hb dX2_howMany_34 (by decide) (fun c_8 => absurd c_8 (by decide)) (fun c_8 => ?_)
  refine lv_iload_n hx hb dX2_howMany_37 rfl (lv_at hl 3 rfl) ?_
  refine lv_iconst (v := 1) hx hb dX2_howMany_38 (by decide) ?_
  refine lv_iload hx hb dX2_howMany_39 (lv_at hl 0 rfl) ?_
  refine lv_ishl hx hb dX2_howMany_41 ?_
  refine hs_topi 2 (by first | rfl | decide +kernel) ?_
  refine lv_iconst (v := (-1)) hx hb dX2_howMany_42 (by decide) ?_
  refine lv_ixor hx hb dX2_howMany_43 ?_
  refine hs_topi (-3) (by first | rfl | decide +kernel) ?_
  refine lv_iand hx hb dX2_howMany_44 ?_
  refine hs_topi 1 (by first | rfl | decide +kernel) ?_
  refine lv_istore (lv' := [(5, .int 1), (4, .int 1), (3, .int 0), (2, .int 1), (1, .int 3), (0, .ref q)]) hx hb dX2_howMany_45 hl (by decide) rfl (fun ls hl => ?_)
  refine lv_iload hx hb dX2_howMany_47 (lv_at hl 0 rfl) ?_
  refine lv_iload_n hx hb dX2_howMany_49 rfl (lv_at hl 3 rfl) ?_
  refine lv_icmp_eq (tgt := 74) hx hb dX2_howMany_50 (by decide) (fun c_9 => ?_) (fun c_9 => absurd c_9 (by decide))
  refine lv_iinc (v := 2) (lv' := [(4, .int 2), (5, .int 1), (3, .int 0), (2, .int 1), (1, .int 3), (0, .ref q)]) hx hb dX2_howMany_74 hl (k := 1) rfl (by decide) (by decide) rfl (fun ls hl => ?_)
  refine lv_goto (tgt := 28) hx hb dX2_howMany_77 (by decide) ?_
  refine lv_iload hx hb dX2_howMany_28 (lv_at hl 0 rfl) ?_
  refine lv_aload_n hx hb dX2_howMany_30 rfl (lv_at hl 5 rfl) ?_
  refine va_get (D := D) (ci := 1) (v := .int 2) (C := RX2) (T := TX2) (N := 3) hx hb hts hiX2 hown hK hP 0 rfl rfl 2 (by decide) fl24 (fun _ h9 => h9) rfl dX2_howMany_31 ?_
  refine lv_icmp_ge (tgt := 80) hx hb dX2_howMany_34 (by decide) (fun c_10 => ?_) (fun c_10 => absurd c_10 (by decide))
  refine lv_aload_n hx hb dX2_howMany_80 rfl (lv_at hl 5 rfl) ?_
  refine va_get (D := D) (ci := 1) (v := .ref q_ways) (C := RX2) (T := TX2) (N := 3) hx hb hts hiX2 hown hK hP 0 rfl rfl 1 (by decide) fl15 (fun _ h9 => h9) rfl dX2_howMany_81 ?_
  refine lv_iload_n hx hb dX2_howMany_84 rfl (lv_at hl 3 rfl) ?_
  refine lv_iload_n hx hb dX2_howMany_85 rfl (lv_at hl 2 rfl) ?_
  refine va_iast hx hb hK hP hD hS 2 0 rfl rfl (hs_in (by decide)) dX2_howMany_86 (fun H locs hP hD hS => ?_)
  have hP : va_P D vwCl [(q, .inr (1, [.ref q_ahead, .ref q_ways, .int 2])), (q_ahead, .inl (k 0, 5, .inl (upd hsz 0 2))), (q_ways, .inl (k 0, 32, .inl (upd (upd wf 0 1) 1 0)))] H := hP
  have hD : va_D A [(q, .inr (1, [.ref q_ahead, .ref q_ways, .int 2])), (q_ahead, .inl (k 0, 5, .inl (upd hsz 0 2))), (q_ways, .inl (k 0, 32, .inl (upd (upd wf 0 1) 1 0)))] := hD
  refine lv_iinc (v := 2) (lv' := [(2, .int 2), (4, .int 2), (5, .int 1), (3, .int 0), (1, .int 3), (0, .ref q)]) hx hb dX2_howMany_87 hl (k := 3) rfl (by decide) (by decide) rfl (fun ls hl => ?_)
  refine lv_goto (tgt := 18) hx hb dX2_howMany_90 (by decide) ?_
  refine lv_iload_n hx hb dX2_howMany_18 rfl (lv_at hl 0 rfl) ?_
  refine lv_iload_n hx hb dX2_howMany_19 rfl (lv_at hl 4 rfl) ?_
  refine lv_icmp_gt (tgt := 93) hx hb dX2_howMany_20 (by decide) (fun c_11 => absurd c_11 (by decide)) (fun c_11 => ?_)
  refine lv_iconst (v := 0) hx hb dX2_howMany_23 (by decide) ?_
  refine lv_istore_n (lv' := [(3, .int 0), (2, .int 2), (4, .int 2), (5, .int 1), (1, .int 3), (0, .ref q)]) hx hb dX2_howMany_24 rfl hl (by decide) rfl (fun ls hl => ?_)
  refine lv_iconst (v := 0) hx hb dX2_howMany_25 (by decide) ?_
  refine lv_istore (lv' := [(4, .int 0), (3, .int 0), (2, .int 2), (5, .int 1), (1, .int 3), (0, .ref q)]) hx hb dX2_howMany_26 hl (by decide) rfl (fun ls hl => ?_)
  refine lv_iload hx hb dX2_howMany_28 (lv_at hl 0 rfl) ?_
  refine lv_aload_n hx hb dX2_howMany_30 rfl (lv_at hl 5 rfl) ?_
  refine va_get (D := D) (ci := 1) (v := .int 2) (C := RX2) (T := TX2) (N := 3) hx hb hts hiX2 hown hK hP 0 rfl rfl 2 (by decide) fl24 (fun _ h9 => h9) rfl dX2_howMany_31 ?_
  refine lv_icmp_ge (tgt := 80) hx hb dX2_howMany_34 (by decide) (fun c_12 => absurd c_12 (by decide)) (fun c_12 => ?_)
  refine lv_iload_n hx hb dX2_howMany_37 rfl (lv_at hl 2 rfl) ?_
  refine lv_iconst (v := 1) hx hb dX2_howMany_38 (by decide) ?_
  refine lv_iload hx hb dX2_howMany_39 (lv_at hl 0 rfl) ?_
  refine lv_ishl hx hb dX2_howMany_41 ?_
  refine hs_topi 1 (by first | rfl | decide +kernel) ?_
  refine lv_iconst (v := (-1)) hx hb dX2_howMany_42 (by decide) ?_
  refine lv_ixor hx hb dX2_howMany_43 ?_
  refine hs_topi (-2) (by first | rfl | decide +kernel) ?_
  refine lv_iand hx hb dX2_howMany_44 ?_
  refine hs_topi 2 (by first | rfl | decide +kernel) ?_
  refine lv_istore (lv' := [(5, .int 2), (4, .int 0), (3, .int 0), (2, .int 2), (1, .int 3), (0, .ref q)]) hx hb dX2_howMany_45 hl (by decide) rfl (fun ls hl => ?_)
  refine lv_iload hx hb dX2_howMany_47 (lv_at hl 0 rfl) ?_
  refine lv_iload_n hx hb dX2_howMany_49 rfl (lv_at hl 3 rfl) ?_
  refine lv_icmp_eq (tgt := 74) hx hb dX2_howMany_50 (by decide) (fun c_13 => ?_) (fun c_13 => absurd c_13 (by decide))
  refine lv_iinc (v := 1) (lv' := [(4, .int 1), (5, .int 2), (3, .int 0), (2, .int 2), (1, .int 3), (0, .ref q)]) hx hb dX2_howMany_74 hl (k := 1) rfl (by decide) (by decide) rfl (fun ls hl => ?_)
  refine lv_goto (tgt := 28) hx hb dX2_howMany_77 (by decide) ?_
  refine lv_iload hx hb dX2_howMany_28 (lv_at hl 0 rfl) ?_
  refine lv_aload_n hx hb dX2_howMany_30 rfl (lv_at hl 5 rfl) ?_
  refine va_get (D := D) (ci := 1) (v := .int 2) (C := RX2) (T := TX2) (N := 3) hx hb hts hiX2 hown hK hP 0 rfl rfl 2 (by decide) fl24 (fun _ h9 => h9) rfl dX2_howMany_31 ?_
  refine lv_icmp_ge (tgt := 80) hx hb dX2_howMany_34 (by decide) (fun c_14 => absurd c_14 (by decide)) (fun c_14 => ?_)
  refine lv_iload_n hx hb dX2_howMany_37 rfl (lv_at hl 3 rfl) ?_
  refine lv_iconst (v := 1) hx hb dX2_howMany_38 (by decide) ?_
  refine lv_iload hx hb dX2_howMany_39 (lv_at hl 0 rfl) ?_
  refine lv_ishl hx hb dX2_howMany_41 ?_
  refine hs_topi 2 (by first | rfl | decide +kernel) ?_
  refine lv_iconst (v := (-1)) hx hb dX2_howMany_42 (by decide) ?_
  refine lv_ixor hx hb dX2_howMany_43 ?_
  refine hs_topi (-3) (by first | rfl | decide +kernel) ?_
  refine lv_iand hx hb dX2_howMany_44 ?_
  refine hs_topi 0 (by first | rfl | decide +kernel) ?_
  refine lv_istore (lv' := [(5, .int 0), (4, .int 1), (3, .int 0), (2, .int 2), (1, .int 3), (0, .ref q)]) hx hb dX2_howMany_45 hl (by decide) rfl (fun ls hl => ?_)
  refine lv_iload hx hb dX2_howMany_47 (lv_at hl 0 rfl) ?_
  refine lv_iload_n hx hb dX2_howMany_49 rfl (lv_at hl 3 rfl) ?_
  refine lv_icmp_eq (tgt := 74) hx hb dX2_howMany_50 (by decide) (fun c_15 => absurd c_15 (by decide)) (fun c_15 => ?_)
  refine lv_aload_n hx hb dX2_howMany_53 rfl (lv_at hl 5 rfl) ?_
  refine lv_iload hx hb dX2_howMany_54 (lv_at hl 1 rfl) ?_
  refine lv_iload hx hb dX2_howMany_56 (lv_at hl 0 rfl) ?_
  refine hs_ci (va_runV (As := [.int 1, .int 0]) (rest := []) ⟨hx, hb, hml, hown, hts⟩ (c_mayCome l D k _ q q_ahead q_ways 2 1 0 (upd hsz 0 2) (hs_in (by decide))) (cwV 2 hts gX2_howMany_X2_mayCome rfl rfl rfl (by decide +kernel) ⟨Nat.le_of_ble_eq_true rfl, Nat.le_of_ble_eq_true rfl⟩) (hs_preV hK hN (hs_subP (w := [(q, .inr (1, [.ref q_ahead, .ref q_ways, .int 2])), (q_ahead, .inl (k 0, 5, .inl (upd hsz 0 2)))]) hP [0, 1] rfl) (hD.sub (ws' := [(q, .inr (1, [.ref q_ahead, .ref q_ways, .int 2])), (q_ahead, .inl (k 0, 5, .inl (upd hsz 0 2)))]) [0, 1] (by decide) rfl) (ci := 1) (q0 := 0) rfl rfl) rfl rfl hl.1 rfl (lv_room (Nat.le_of_ble_eq_true rfl)) dX2_howMany_58 ⟨Nat.le_of_ble_eq_true rfl, Nat.le_of_ble_eq_true rfl⟩) hP hD hS hA [0, 1] [2] [(q_ways, .inl (k 0, 32, .inl (upd (upd wf 0 1) 1 0)))] rfl rfl (by decide) (by decide) [1, 2, 0] (fun u_18 => [(q, .inr (1, [.ref q_ahead, .ref q_ways, .int 2])), (q_ahead, .inl (k 0, 5, .inl (upd hsz 0 2))), (q_ways, .inl (k 0, 32, .inl (upd (upd wf 0 1) 1 0)))]) (fun _ => rfl) (by decide) (fun r_16 u_18 H locs hw_17 hP hD hS => ?_)
  have hP : va_P D vwCl [(q, .inr (1, [.ref q_ahead, .ref q_ways, .int 2])), (q_ahead, .inl (k 0, 5, .inl (upd hsz 0 2))), (q_ways, .inl (k 0, 32, .inl (upd (upd wf 0 1) 1 0)))] H := hP
  have hD : va_D A [(q, .inr (1, [.ref q_ahead, .ref q_ways, .int 2])), (q_ahead, .inl (k 0, 5, .inl (upd hsz 0 2))), (q_ways, .inl (k 0, 32, .inl (upd (upd wf 0 1) 1 0)))] := hD
  refine hs_topi 1 (hw_17.trans (by first | rfl | decide +kernel | rfl)) ?_
  refine lv_if_eq (tgt := 74) hx hb dX2_howMany_61 (by decide) (fun c_19 => absurd c_19 (by decide)) (fun c_19 => ?_)
  refine lv_iload_n hx hb dX2_howMany_64 rfl (lv_at hl 2 rfl) ?_
  refine lv_aload_n hx hb dX2_howMany_65 rfl (lv_at hl 5 rfl) ?_
  refine va_get (D := D) (ci := 1) (v := .ref q_ways) (C := RX2) (T := TX2) (N := 3) hx hb hts hiX2 hown hK hP 0 rfl rfl 1 (by decide) fl15 (fun _ h9 => h9) rfl dX2_howMany_66 ?_
  refine lv_iload hx hb dX2_howMany_69 (lv_at hl 0 rfl) ?_
  refine va_iald hx hb hK hP 2 0 rfl rfl (hs_in (by decide)) dX2_howMany_71 ?_
  refine hs_topi 1 (by first | rfl | decide +kernel) ?_
  refine lv_iadd hx hb dX2_howMany_72 ?_
  refine hs_topi 1 (by first | rfl | decide +kernel) ?_
  refine lv_istore_n (lv' := [(3, .int 1), (5, .int 0), (4, .int 1), (2, .int 2), (1, .int 3), (0, .ref q)]) hx hb dX2_howMany_73 rfl hl (by decide) rfl (fun ls hl => ?_)
  refine lv_iinc (v := 2) (lv' := [(4, .int 2), (3, .int 1), (5, .int 0), (2, .int 2), (1, .int 3), (0, .ref q)]) hx hb dX2_howMany_74 hl (k := 2) rfl (by decide) (by decide) rfl (fun ls hl => ?_)
  refine lv_goto (tgt := 28) hx hb dX2_howMany_77 (by decide) ?_
  refine lv_iload hx hb dX2_howMany_28 (lv_at hl 0 rfl) ?_
  refine lv_aload_n hx hb dX2_howMany_30 rfl (lv_at hl 5 rfl) ?_
  refine va_get (D := D) (ci := 1) (v := .int 2) (C := RX2) (T := TX2) (N := 3) hx hb hts hiX2 hown hK hP 0 rfl rfl 2 (by decide) fl24 (fun _ h9 => h9) rfl dX2_howMany_31 ?_
  refine lv_icmp_ge (tgt := 80) hx hb dX2_howMany_34 (by decide) (fun c_20 => ?_) (fun c_20 => absurd c_20 (by decide))
  refine lv_aload_n hx hb dX2_howMany_80 rfl (lv_at hl 5 rfl) ?_
  refine va_get (D := D) (ci := 1) (v := .ref q_ways) (C := RX2) (T := TX2) (N := 3) hx hb hts hiX2 hown hK hP 0 rfl rfl 1 (by decide) fl15 (fun _ h9 => h9) rfl dX2_howMany_81 ?_
  refine lv_iload_n hx hb dX2_howMany_84 rfl (lv_at hl 3 rfl) ?_
  refine lv_iload_n hx hb dX2_howMany_85 rfl (lv_at hl 1 rfl) ?_
  refine va_iast hx hb hK hP hD hS 2 0 rfl rfl (hs_in (by decide)) dX2_howMany_86 (fun H locs hP hD hS => ?_)
  have hP : va_P D vwCl [(q, .inr (1, [.ref q_ahead, .ref q_ways, .int 2])), (q_ahead, .inl (k 0, 5, .inl (upd hsz 0 2))), (q_ways, .inl (k 0, 32, .inl (upd (upd (upd wf 0 1) 1 0) 2 1)))] H := hP
  have hD : va_D A [(q, .inr (1, [.ref q_ahead, .ref q_ways, .int 2])), (q_ahead, .inl (k 0, 5, .inl (upd hsz 0 2))), (q_ways, .inl (k 0, 32, .inl (upd (upd (upd wf 0 1) 1 0) 2 1)))] := hD
  refine lv_iinc (v := 3) (lv' := [(2, .int 3), (4, .int 2), (3, .int 1), (5, .int 0), (1, .int 3), (0, .ref q)]) hx hb dX2_howMany_87 hl (k := 3) rfl (by decide) (by decide) rfl (fun ls hl => ?_)
  refine lv_goto (tgt := 18) hx hb dX2_howMany_90 (by decide) ?_
  refine lv_iload_n hx hb dX2_howMany_18 rfl (lv_at hl 0 rfl) ?_
  refine lv_iload_n hx hb dX2_howMany_19 rfl (lv_at hl 4 rfl) ?_
  refine lv_icmp_gt (tgt := 93) hx hb dX2_howMany_20 (by decide) (fun c_21 => absurd c_21 (by decide)) (fun c_21 => ?_)
  refine lv_iconst (v := 0) hx hb dX2_howMany_23 (by decide) ?_
  refine lv_istore_n (lv' := [(3, .int 0), (2, .int 3), (4, .int 2), (5, .int 0), (1, .int 3), (0, .ref q)]) hx hb dX2_howMany_24 rfl hl (by decide) rfl (fun ls hl => ?_)
  refine lv_iconst (v := 0) hx hb dX2_howMany_25 (by decide) ?_
  refine lv_istore (lv' := [(4, .int 0), (3, .int 0), (2, .int 3), (5, .int 0), (1, .int 3), (0, .ref q)]) hx hb dX2_howMany_26 hl (by decide) rfl (fun ls hl => ?_)
  refine lv_iload hx hb dX2_howMany_28 (lv_at hl 0 rfl) ?_
  refine lv_aload_n hx hb dX2_howMany_30 rfl (lv_at hl 5 rfl) ?_
  refine va_get (D := D) (ci := 1) (v := .int 2) (C := RX2) (T := TX2) (N := 3) hx hb hts hiX2 hown hK hP 0 rfl rfl 2 (by decide) fl24 (fun _ h9 => h9) rfl dX2_howMany_31 ?_
  refine lv_icmp_ge (tgt := 80) hx hb dX2_howMany_34 (by decide) (fun c_22 => absurd c_22 (by decide)) (fun c_22 => ?_)
  refine lv_iload_n hx hb dX2_howMany_37 rfl (lv_at hl 2 rfl) ?_
  refine lv_iconst (v := 1) hx hb dX2_howMany_38 (by decide) ?_
  refine lv_iload hx hb dX2_howMany_39 (lv_at hl 0 rfl) ?_
  refine lv_ishl hx hb dX2_howMany_41 ?_
  refine hs_topi 1 (by first | rfl | decide +kernel) ?_
  refine lv_iconst (v := (-1)) hx hb dX2_howMany_42 (by decide) ?_
  refine lv_ixor hx hb dX2_howMany_43 ?_
  refine hs_topi (-2) (by first | rfl | decide +kernel) ?_
  refine lv_iand hx hb dX2_howMany_44 ?_
  refine hs_topi 2 (by first | rfl | decide +kernel) ?_
  refine lv_istore (lv' := [(5, .int 2), (4, .int 0), (3, .int 0), (2, .int 3), (1, .int 3), (0, .ref q)]) hx hb dX2_howMany_45 hl (by decide) rfl (fun ls hl => ?_)
  refine lv_iload hx hb dX2_howMany_47 (lv_at hl 0 rfl) ?_
  refine lv_iload_n hx hb dX2_howMany_49 rfl (lv_at hl 3 rfl) ?_
  refine lv_icmp_eq (tgt := 74) hx hb dX2_howMany_50 (by decide) (fun c_23 => absurd c_23 (by decide)) (fun c_23 => ?_)
  refine lv_aload_n hx hb dX2_howMany_53 rfl (lv_at hl 5 rfl) ?_
  refine lv_iload hx hb dX2_howMany_54 (lv_at hl 1 rfl) ?_
  refine lv_iload hx hb dX2_howMany_56 (lv_at hl 0 rfl) ?_
  refine hs_ci (va_runV (As := [.int 0, .int 2]) (rest := []) ⟨hx, hb, hml, hown, hts⟩ (c_mayCome l D k _ q q_ahead q_ways 2 0 2 (upd hsz 0 2) (hs_in (by decide))) (cwV 2 hts gX2_howMany_X2_mayCome rfl rfl rfl (by decide +kernel) ⟨Nat.le_of_ble_eq_true rfl, Nat.le_of_ble_eq_true rfl⟩) (hs_preV hK hN (hs_subP (w := [(q, .inr (1, [.ref q_ahead, .ref q_ways, .int 2])), (q_ahead, .inl (k 0, 5, .inl (upd hsz 0 2)))]) hP [0, 1] rfl) (hD.sub (ws' := [(q, .inr (1, [.ref q_ahead, .ref q_ways, .int 2])), (q_ahead, .inl (k 0, 5, .inl (upd hsz 0 2)))]) [0, 1] (by decide) rfl) (ci := 1) (q0 := 0) rfl rfl) rfl rfl hl.1 rfl (lv_room (Nat.le_of_ble_eq_true rfl)) dX2_howMany_58 ⟨Nat.le_of_ble_eq_true rfl, Nat.le_of_ble_eq_true rfl⟩) hP hD hS hA [0, 1] [2] [(q_ways, .inl (k 0, 32, .inl (upd (upd (upd wf 0 1) 1 0) 2 1)))] rfl rfl (by decide) (by decide) [1, 2, 0] (fun u_26 => [(q, .inr (1, [.ref q_ahead, .ref q_ways, .int 2])), (q_ahead, .inl (k 0, 5, .inl (upd hsz 0 2))), (q_ways, .inl (k 0, 32, .inl (upd (upd (upd wf 0 1) 1 0) 2 1)))]) (fun _ => rfl) (by decide) (fun r_24 u_26 H locs hw_25 hP hD hS => ?_)
  have hP : va_P D vwCl [(q, .inr (1, [.ref q_ahead, .ref q_ways, .int 2])), (q_ahead, .inl (k 0, 5, .inl (upd hsz 0 2))), (q_ways, .inl (k 0, 32, .inl (upd (upd (upd wf 0 1) 1 0) 2 1)))] H := hP
  have hD : va_D A [(q, .inr (1, [.ref q_ahead, .ref q_ways, .int 2])), (q_ahead, .inl (k 0, 5, .inl (upd hsz 0 2))), (q_ways, .inl (k 0, 32, .inl (upd (upd (upd wf 0 1) 1 0) 2 1)))] := hD
  refine hs_topi 1 (hw_25.trans (by first | rfl | decide +kernel | rfl)) ?_
  refine lv_if_eq (tgt := 74) hx hb dX2_howMany_61 (by decide) (fun c_27 => absurd c_27 (by decide)) (fun c_27 => ?_)
  refine lv_iload_n hx hb dX2_howMany_64 rfl (lv_at hl 2 rfl) ?_
  refine lv_aload_n hx hb dX2_howMany_65 rfl (lv_at hl 5 rfl) ?_
  refine va_get (D := D) (ci := 1) (v := .ref q_ways) (C := RX2) (T := TX2) (N := 3) hx hb hts hiX2 hown hK hP 0 rfl rfl 1 (by decide) fl15 (fun _ h9 => h9) rfl dX2_howMany_66 ?_
  refine lv_iload hx hb dX2_howMany_69 (lv_at hl 0 rfl) ?_
  refine va_iald hx hb hK hP 2 0 rfl rfl (hs_in (by decide)) dX2_howMany_71 ?_
  refine hs_topi 1 (by first | rfl | decide +kernel) ?_
  refine lv_iadd hx hb dX2_howMany_72 ?_
  refine hs_topi 1 (by first | rfl | decide +kernel) ?_
  refine lv_istore_n (lv' := [(3, .int 1), (5, .int 2), (4, .int 0), (2, .int 3), (1, .int 3), (0, .ref q)]) hx hb dX2_howMany_73 rfl hl (by decide) rfl (fun ls hl => ?_)
  refine lv_iinc (v := 1) (lv' := [(4, .int 1), (3, .int 1), (5, .int 2), (2, .int 3), (1, .int 3), (0, .ref q)]) hx hb dX2_howMany_74 hl (k := 2) rfl (by decide) (by decide) rfl (fun ls hl => ?_)
  refine lv_goto (tgt := 28) hx hb dX2_howMany_77 (by decide) ?_
  refine lv_iload hx hb dX2_howMany_28 (lv_at hl 0 rfl) ?_
  refine lv_aload_n hx hb dX2_howMany_30 rfl (lv_at hl 5 rfl) ?_
  refine va_get (D := D) (ci := 1) (v := .int 2) (C := RX2) (T := TX2) (N := 3) hx hb hts hiX2 hown hK hP 0 rfl rfl 2 (by decide) fl24 (fun _ h9 => h9) rfl dX2_howMany_31 ?_
  refine lv_icmp_ge (tgt := 80) hx hb dX2_howMany_34 (by decide) (fun c_28 => absurd c_28 (by decide)) (fun c_28 => ?_)
  refine lv_iload_n hx hb dX2_howMany_37 rfl (lv_at hl 3 rfl) ?_
  refine lv_iconst (v := 1) hx hb dX2_howMany_38 (by decide) ?_
  refine lv_iload hx hb dX2_howMany_39 (lv_at hl 0 rfl) ?_
  refine lv_ishl hx hb dX2_howMany_41 ?_
  refine hs_topi 2 (by first | rfl | decide +kernel) ?_
  refine lv_iconst (v := (-1)) hx hb dX2_howMany_42 (by decide) ?_
  refine lv_ixor hx hb dX2_howMany_43 ?_
  refine hs_topi (-3) (by first | rfl | decide +kernel) ?_
  refine lv_iand hx hb dX2_howMany_44 ?_
  refine hs_topi 1 (by first | rfl | decide +kernel) ?_
  refine lv_istore (lv' := [(5, .int 1), (4, .int 1), (3, .int 1), (2, .int 3), (1, .int 3), (0, .ref q)]) hx hb dX2_howMany_45 hl (by decide) rfl (fun ls hl => ?_)
  refine lv_iload hx hb dX2_howMany_47 (lv_at hl 0 rfl) ?_
  refine lv_iload_n hx hb dX2_howMany_49 rfl (lv_at hl 3 rfl) ?_
  refine lv_icmp_eq (tgt := 74) hx hb dX2_howMany_50 (by decide) (fun c_29 => absurd c_29 (by decide)) (fun c_29 => ?_)
  refine lv_aload_n hx hb dX2_howMany_53 rfl (lv_at hl 5 rfl) ?_
  refine lv_iload hx hb dX2_howMany_54 (lv_at hl 1 rfl) ?_
  refine lv_iload hx hb dX2_howMany_56 (lv_at hl 0 rfl) ?_
  refine hs_ci (va_runV (As := [.int 1, .int 1]) (rest := []) ⟨hx, hb, hml, hown, hts⟩ (c_mayCome l D k _ q q_ahead q_ways 2 1 1 (upd hsz 0 2) (hs_in (by decide))) (cwV 2 hts gX2_howMany_X2_mayCome rfl rfl rfl (by decide +kernel) ⟨Nat.le_of_ble_eq_true rfl, Nat.le_of_ble_eq_true rfl⟩) (hs_preV hK hN (hs_subP (w := [(q, .inr (1, [.ref q_ahead, .ref q_ways, .int 2])), (q_ahead, .inl (k 0, 5, .inl (upd hsz 0 2)))]) hP [0, 1] rfl) (hD.sub (ws' := [(q, .inr (1, [.ref q_ahead, .ref q_ways, .int 2])), (q_ahead, .inl (k 0, 5, .inl (upd hsz 0 2)))]) [0, 1] (by decide) rfl) (ci := 1) (q0 := 0) rfl rfl) rfl rfl hl.1 rfl (lv_room (Nat.le_of_ble_eq_true rfl)) dX2_howMany_58 ⟨Nat.le_of_ble_eq_true rfl, Nat.le_of_ble_eq_true rfl⟩) hP hD hS hA [0, 1] [2] [(q_ways, .inl (k 0, 32, .inl (upd (upd (upd wf 0 1) 1 0) 2 1)))] rfl rfl (by decide) (by decide) [1, 2, 0] (fun u_32 => [(q, .inr (1, [.ref q_ahead, .ref q_ways, .int 2])), (q_ahead, .inl (k 0, 5, .inl (upd hsz 0 2))), (q_ways, .inl (k 0, 32, .inl (upd (upd (upd wf 0 1) 1 0) 2 1)))]) (fun _ => rfl) (by decide) (fun r_30 u_32 H locs hw_31 hP hD hS => ?_)
  have hP : va_P D vwCl [(q, .inr (1, [.ref q_ahead, .ref q_ways, .int 2])), (q_ahead, .inl (k 0, 5, .inl (upd hsz 0 2))), (q_ways, .inl (k 0, 32, .inl (upd (upd (upd wf 0 1) 1 0) 2 1)))] H := hP
  have hD : va_D A [(q, .inr (1, [.ref q_ahead, .ref q_ways, .int 2])), (q_ahead, .inl (k 0, 5, .inl (upd hsz 0 2))), (q_ways, .inl (k 0, 32, .inl (upd (upd (upd wf 0 1) 1 0) 2 1)))] := hD
  refine hs_topi 1 (hw_31.trans (by first | rfl | decide +kernel | rfl)) ?_
  refine lv_if_eq (tgt := 74) hx hb dX2_howMany_61 (by decide) (fun c_33 => absurd c_33 (by decide)) (fun c_33 => ?_)
  refine lv_iload_n hx hb dX2_howMany_64 rfl (lv_at hl 2 rfl) ?_
  refine lv_aload_n hx hb dX2_howMany_65 rfl (lv_at hl 5 rfl) ?_
  refine va_get (D := D) (ci := 1) (v := .ref q_ways) (C := RX2) (T := TX2) (N := 3) hx hb hts hiX2 hown hK hP 0 rfl rfl 1 (by decide) fl15 (fun _ h9 => h9) rfl dX2_howMany_66 ?_
  refine lv_iload hx hb dX2_howMany_69 (lv_at hl 0 rfl) ?_
  refine va_iald hx hb hK hP 2 0 rfl rfl (hs_in (by decide)) dX2_howMany_71 ?_
  refine hs_topi 0 (by first | rfl | decide +kernel) ?_
  refine lv_iadd hx hb dX2_howMany_72 ?_
  refine hs_topi 1 (by first | rfl | decide +kernel) ?_
  refine lv_istore_n (lv' := [(3, .int 1), (5, .int 1), (4, .int 1), (2, .int 3), (1, .int 3), (0, .ref q)]) hx hb dX2_howMany_73 rfl hl (by decide) rfl (fun ls hl => ?_)
  refine lv_iinc (v := 2) (lv' := [(4, .int 2), (3, .int 1), (5, .int 1), (2, .int 3), (1, .int 3), (0, .ref q)]) hx hb dX2_howMany_74 hl (k := 2) rfl (by decide) (by decide) rfl (fun ls hl => ?_)
  refine lv_goto (tgt := 28) hx hb dX2_howMany_77 (by decide) ?_
  refine lv_iload hx hb dX2_howMany_28 (lv_at hl 0 rfl) ?_
  refine lv_aload_n hx hb dX2_howMany_30 rfl (lv_at hl 5 rfl) ?_
  refine va_get (D := D) (ci := 1) (v := .int 2) (C := RX2) (T := TX2) (N := 3) hx hb hts hiX2 hown hK hP 0 rfl rfl 2 (by decide) fl24 (fun _ h9 => h9) rfl dX2_howMany_31 ?_
  refine lv_icmp_ge (tgt := 80) hx hb dX2_howMany_34 (by decide) (fun c_34 => ?_) (fun c_34 => absurd c_34 (by decide))
  refine lv_aload_n hx hb dX2_howMany_80 rfl (lv_at hl 5 rfl) ?_
  refine va_get (D := D) (ci := 1) (v := .ref q_ways) (C := RX2) (T := TX2) (N := 3) hx hb hts hiX2 hown hK hP 0 rfl rfl 1 (by decide) fl15 (fun _ h9 => h9) rfl dX2_howMany_81 ?_
  refine lv_iload_n hx hb dX2_howMany_84 rfl (lv_at hl 3 rfl) ?_
  refine lv_iload_n hx hb dX2_howMany_85 rfl (lv_at hl 1 rfl) ?_
  refine va_iast hx hb hK hP hD hS 2 0 rfl rfl (hs_in (by decide)) dX2_howMany_86 (fun H locs hP hD hS => ?_)
  have hP : va_P D vwCl [(q, .inr (1, [.ref q_ahead, .ref q_ways, .int 2])), (q_ahead, .inl (k 0, 5, .inl (upd hsz 0 2))), (q_ways, .inl (k 0, 32, .inl (upd (upd (upd (upd wf 0 1) 1 0) 2 1) 3 1)))] H := hP
  have hD : va_D A [(q, .inr (1, [.ref q_ahead, .ref q_ways, .int 2])), (q_ahead, .inl (k 0, 5, .inl (upd hsz 0 2))), (q_ways, .inl (k 0, 32, .inl (upd (upd (upd (upd wf 0 1) 1 0) 2 1) 3 1)))] := hD
  refine lv_iinc (v := 4) (lv' := [(2, .int 4), (4, .int 2), (3, .int 1), (5, .int 1), (1, .int 3), (0, .ref q)]) hx hb dX2_howMany_87 hl (k := 3) rfl (by decide) (by decide) rfl (fun ls hl => ?_)
  refine lv_goto (tgt := 18) hx hb dX2_howMany_90 (by decide) ?_
  refine lv_iload_n hx hb dX2_howMany_18 rfl (lv_at hl 0 rfl) ?_
  refine lv_iload_n hx hb dX2_howMany_19 rfl (lv_at hl 4 rfl) ?_
  refine lv_icmp_gt (tgt := 93) hx hb dX2_howMany_20 (by decide) (fun c_35 => ?_) (fun c_35 => absurd c_35 (by decide))
  refine lv_aload_n hx hb dX2_howMany_93 rfl (lv_at hl 5 rfl) ?_
  refine va_get (D := D) (ci := 1) (v := .ref q_ways) (C := RX2) (T := TX2) (N := 3) hx hb hts hiX2 hown hK hP 0 rfl rfl 1 (by decide) fl15 (fun _ h9 => h9) rfl dX2_howMany_94 ?_
  refine lv_iload_n hx hb dX2_howMany_97 rfl (lv_at hl 4 rfl) ?_
  refine va_iald hx hb hK hP 2 0 rfl rfl (hs_in (by decide)) dX2_howMany_98 ?_
  refine hs_topi 1 (by first | rfl | decide +kernel) ?_
  exact hs_iret hx hb hr hlocks hK hP hD hS () [0, 1, 2] rfl (by decide) dX2_howMany_99 (rfl)

set_option maxHeartbeats 4000000 in
set_option maxRecDepth 100000 in
theorem c_howManyWith_01 (l : Launch) (D : va_G) (k : Nat → ClassId) (sz : Nat) (q : Nat) (q_ahead : Nat) (q_ways : Nat) (wf : Nat → Int32)  : MI l yX2_howManyWith wsX2_howManyWith ({ frames := 2, cells := 0, slots := 0, locals := 47 }) D k [.ref q, .int 0, .int 1] [(q, .inr (1, [.ref q_ahead, .ref q_ways, .int 2])), (q_ahead, .inl (k 0, 5, .inl (hsz))), (q_ways, .inl (k 0, 32, .inl (wf)))] sz (fun (r : Int32) (u : Unit) => r = 1) (fun (u : Unit) => [(q, .inr (1, [.ref q_ahead, .ref q_ways, .int 2])), (q_ahead, .inl (k 0, 5, .inl (hsz))), (q_ways, .inl (k 0, 32, .inl (upd (upd (upd (upd wf 0 1) 1 1) 2 0) 3 1)))]) := by
  refine Met.ofW (cc := cX2_howManyWith) (maxL := 5) (ret := (some .int)) (by decide) rfl ?_
  intro p e s m args below meth c s₁ B hml hv
  obtain ⟨rfl, hsz, hP, hK, hD0, hN⟩ := hv
  have hx := B.exec
  have hb := B.bytes
  have hr := B.returns
  have hlocks := B.notSynchronized
  have hts := atoms_spec (ws := wsX2_howManyWith) B.pre
  have hown : s.vm.findClass RX2 = some m.cls := findClass_of_methodNamed B.named
  have hiX2 : ∀ w ∈ u_ws RX2 TX2 3, w ∈ wsX2_howManyWith := by decide +kernel
  have fl9 := hts (.fieldLink RX2 9 "HalfScales$Ranks" "ahead" "[I") (by decide +kernel)
  subst hsz
  have hD := hD0.self (sz := s.heap.size)
  generalize hAe : va_A [(q, .inr (1, [.ref q_ahead, .ref q_ways, .int 2])), (q_ahead, .inl (k 0, 5, .inl (hsz))), (q_ways, .inl (k 0, 32, .inl (wf)))] s.heap.size = A at hD ⊢
  have hA : ∀ q : Nat, s.heap.size ≤ q → A q := fun q h => by rw [← hAe]; exact Or.inr h
  have hS : va_S A s.heap s.heap [] := va_S.rf
  have hl := lv_entry ([.ref q, .int 0, .int 1]) (n := 5) (Nat.le_of_ble_eq_true rfl)
  rw [lg_entry_eq]
  generalize (lg_sl ([.ref q, .int 0, .int 1]) ++ List.replicate (5 - (lg_sl ([.ref q, .int 0, .int 1])).length) Slot.unset).toArray = ls at hl ⊢
  have hl : lv_has ls 5 [(0, .ref q), (1, .int 0), (2, .int 1)] := hl
  have hP : va_P D vwCl [(q, .inr (1, [.ref q_ahead, .ref q_ways, .int 2])), (q_ahead, .inl (k 0, 5, .inl (hsz))), (q_ways, .inl (k 0, 32, .inl (wf)))] s.heap := hP
  refine lv_aload_n hx hb dX2_howManyWith_0 rfl (lv_at hl 0 rfl) ?_
  refine va_get (D := D) (ci := 1) (v := .ref q_ahead) (C := RX2) (T := TX2) (N := 3) hx hb hts hiX2 hown hK hP 0 rfl rfl 0 (by decide) fl9 (fun _ h9 => h9) rfl dX2_howManyWith_1 ?_
  refine lv_iload_n hx hb dX2_howManyWith_4 rfl (lv_at hl 2 rfl) ?_
  refine va_iald hx hb hK hP 1 0 rfl rfl (hs_in (by decide)) dX2_howManyWith_5 ?_
  refine hs_topi 0 (by first | rfl | decide +kernel) ?_
  refine lv_istore_n (lv' := [(3, .int 0), (0, .ref q), (1, .int 0), (2, .int 1)]) hx hb dX2_howManyWith_6 rfl hl (by decide) rfl (fun ls hl => ?_)
  refine lv_aload_n hx hb dX2_howManyWith_7 rfl (lv_at hl 1 rfl) ?_
  refine va_get (D := D) (ci := 1) (v := .ref q_ahead) (C := RX2) (T := TX2) (N := 3) hx hb hts hiX2 hown hK hP 0 rfl rfl 0 (by decide) fl9 (fun _ h9 => h9) rfl dX2_howManyWith_8 ?_
  refine lv_iload_n hx hb dX2_howManyWith_11 rfl (lv_at hl 3 rfl) ?_
  refine lv_iload_n hx hb dX2_howManyWith_12 rfl (lv_at hl 0 rfl) ?_
  refine lv_iconst (v := 1) hx hb dX2_howManyWith_13 (by decide) ?_
  refine lv_iload_n hx hb dX2_howManyWith_14 rfl (lv_at hl 2 rfl) ?_
  refine lv_ishl hx hb dX2_howManyWith_15 ?_
  refine hs_topi 1 (by first | rfl | decide +kernel) ?_
  refine lv_ior hx hb dX2_howManyWith_16 ?_
  refine hs_topi 1 (by first | rfl | decide +kernel) ?_
  refine va_iast hx hb hK hP hD hS 1 0 rfl rfl (hs_in (by decide)) dX2_howManyWith_17 (fun H locs hP hD hS => ?_)
  have hP : va_P D vwCl [(q, .inr (1, [.ref q_ahead, .ref q_ways, .int 2])), (q_ahead, .inl (k 0, 5, .inl (upd hsz 1 1))), (q_ways, .inl (k 0, 32, .inl (wf)))] H := hP
  have hD : va_D A [(q, .inr (1, [.ref q_ahead, .ref q_ways, .int 2])), (q_ahead, .inl (k 0, 5, .inl (upd hsz 1 1))), (q_ways, .inl (k 0, 32, .inl (wf)))] := hD
  refine lv_aload_n hx hb dX2_howManyWith_18 rfl (lv_at hl 1 rfl) ?_
  refine hs_ci (va_runV (As := []) (rest := []) ⟨hx, hb, hml, hown, hts⟩ (c_howMany_01 l D k _ q q_ahead q_ways wf) (cwV 0 hts gX2_howManyWith_X2_howMany rfl rfl rfl (by decide +kernel) ⟨Nat.le_of_ble_eq_true rfl, Nat.le_of_ble_eq_true rfl⟩) (hs_preV hK hN (hs_subP (w := [(q, .inr (1, [.ref q_ahead, .ref q_ways, .int 2])), (q_ahead, .inl (k 0, 5, .inl (upd hsz 1 1))), (q_ways, .inl (k 0, 32, .inl (wf)))]) hP [0, 1, 2] rfl) (hD.sub (ws' := [(q, .inr (1, [.ref q_ahead, .ref q_ways, .int 2])), (q_ahead, .inl (k 0, 5, .inl (upd hsz 1 1))), (q_ways, .inl (k 0, 32, .inl (wf)))]) [0, 1, 2] (by decide) rfl) (ci := 1) (q0 := 0) rfl rfl) rfl rfl hl.1 rfl (lv_room (Nat.le_of_ble_eq_true rfl)) dX2_howManyWith_19 ⟨Nat.le_of_ble_eq_true rfl, Nat.le_of_ble_eq_true rfl⟩) hP hD hS hA [0, 1, 2] [] [] rfl rfl (by decide) (by decide) [0, 1, 2] (fun u_3 => [(q, .inr (1, [.ref q_ahead, .ref q_ways, .int 2])), (q_ahead, .inl (k 0, 5, .inl (upd hsz 1 1))), (q_ways, .inl (k 0, 32, .inl (upd (upd (upd (upd wf 0 1) 1 1) 2 0) 3 1)))]) (fun _ => rfl) (by decide) (fun r_1 u_3 H locs hw_2 hP hD hS => ?_)
  have hP : va_P D vwCl [(q, .inr (1, [.ref q_ahead, .ref q_ways, .int 2])), (q_ahead, .inl (k 0, 5, .inl (upd hsz 1 1))), (q_ways, .inl (k 0, 32, .inl (upd (upd (upd (upd wf 0 1) 1 1) 2 0) 3 1)))] H := hP
  have hD : va_D A [(q, .inr (1, [.ref q_ahead, .ref q_ways, .int 2])), (q_ahead, .inl (k 0, 5, .inl (upd hsz 1 1))), (q_ways, .inl (k 0, 32, .inl (upd (upd (upd (upd wf 0 1) 1 1) 2 0) 3 1)))] := hD
  refine hs_topi 1 (hw_2.trans (by first | rfl | decide +kernel | rfl)) ?_
  refine lv_istore (lv' := [(4, .int 1), (3, .int 0), (0, .ref q), (1, .int 0), (2, .int 1)]) hx hb dX2_howManyWith_22 hl (by decide) rfl (fun ls hl => ?_)
  refine lv_aload_n hx hb dX2_howManyWith_24 rfl (lv_at hl 2 rfl) ?_
  refine va_get (D := D) (ci := 1) (v := .ref q_ahead) (C := RX2) (T := TX2) (N := 3) hx hb hts hiX2 hown hK hP 0 rfl rfl 0 (by decide) fl9 (fun _ h9 => h9) rfl dX2_howManyWith_25 ?_
  refine lv_iload_n hx hb dX2_howManyWith_28 rfl (lv_at hl 4 rfl) ?_
  refine lv_iload_n hx hb dX2_howManyWith_29 rfl (lv_at hl 1 rfl) ?_
  refine va_iast hx hb hK hP hD hS 1 0 rfl rfl (hs_in (by decide)) dX2_howManyWith_30 (fun H locs hP hD hS => ?_)
  have hE : upd (upd hsz 1 1) 1 0 = hsz := hs_uzz 1 1
  have hP : va_P D vwCl [(q, .inr (1, [.ref q_ahead, .ref q_ways, .int 2])), (q_ahead, .inl (k 0, 5, .inl (upd (upd hsz 1 1) 1 0))), (q_ways, .inl (k 0, 32, .inl (upd (upd (upd (upd wf 0 1) 1 1) 2 0) 3 1)))] H := hP
  have hD : va_D A [(q, .inr (1, [.ref q_ahead, .ref q_ways, .int 2])), (q_ahead, .inl (k 0, 5, .inl (upd (upd hsz 1 1) 1 0))), (q_ways, .inl (k 0, 32, .inl (upd (upd (upd (upd wf 0 1) 1 1) 2 0) 3 1)))] := hD
  rw [hE] at hP hD
  refine lv_iload hx hb dX2_howManyWith_31 (lv_at hl 0 rfl) ?_
  exact hs_iret hx hb hr hlocks hK hP hD hS () [0, 1, 2] rfl (by decide) dX2_howManyWith_33 (rfl)

set_option maxHeartbeats 4000000 in
set_option maxRecDepth 100000 in
theorem c_howManyWith_10 (l : Launch) (D : va_G) (k : Nat → ClassId) (sz : Nat) (q : Nat) (q_ahead : Nat) (q_ways : Nat) (wf : Nat → Int32)  : MI l yX2_howManyWith wsX2_howManyWith ({ frames := 2, cells := 0, slots := 0, locals := 47 }) D k [.ref q, .int 1, .int 0] [(q, .inr (1, [.ref q_ahead, .ref q_ways, .int 2])), (q_ahead, .inl (k 0, 5, .inl (hsz))), (q_ways, .inl (k 0, 32, .inl (wf)))] sz (fun (r : Int32) (u : Unit) => r = 1) (fun (u : Unit) => [(q, .inr (1, [.ref q_ahead, .ref q_ways, .int 2])), (q_ahead, .inl (k 0, 5, .inl (hsz))), (q_ways, .inl (k 0, 32, .inl (upd (upd (upd (upd wf 0 1) 1 0) 2 1) 3 1)))]) := by
  refine Met.ofW (cc := cX2_howManyWith) (maxL := 5) (ret := (some .int)) (by decide) rfl ?_
  intro p e s m args below meth c s₁ B hml hv
  obtain ⟨rfl, hsz, hP, hK, hD0, hN⟩ := hv
  have hx := B.exec
  have hb := B.bytes
  have hr := B.returns
  have hlocks := B.notSynchronized
  have hts := atoms_spec (ws := wsX2_howManyWith) B.pre
  have hown : s.vm.findClass RX2 = some m.cls := findClass_of_methodNamed B.named
  have hiX2 : ∀ w ∈ u_ws RX2 TX2 3, w ∈ wsX2_howManyWith := by decide +kernel
  have fl9 := hts (.fieldLink RX2 9 "HalfScales$Ranks" "ahead" "[I") (by decide +kernel)
  subst hsz
  have hD := hD0.self (sz := s.heap.size)
  generalize hAe : va_A [(q, .inr (1, [.ref q_ahead, .ref q_ways, .int 2])), (q_ahead, .inl (k 0, 5, .inl (hsz))), (q_ways, .inl (k 0, 32, .inl (wf)))] s.heap.size = A at hD ⊢
  have hA : ∀ q : Nat, s.heap.size ≤ q → A q := fun q h => by rw [← hAe]; exact Or.inr h
  have hS : va_S A s.heap s.heap [] := va_S.rf
  have hl := lv_entry ([.ref q, .int 1, .int 0]) (n := 5) (Nat.le_of_ble_eq_true rfl)
  rw [lg_entry_eq]
  generalize (lg_sl ([.ref q, .int 1, .int 0]) ++ List.replicate (5 - (lg_sl ([.ref q, .int 1, .int 0])).length) Slot.unset).toArray = ls at hl ⊢
  have hl : lv_has ls 5 [(0, .ref q), (1, .int 1), (2, .int 0)] := hl
  have hP : va_P D vwCl [(q, .inr (1, [.ref q_ahead, .ref q_ways, .int 2])), (q_ahead, .inl (k 0, 5, .inl (hsz))), (q_ways, .inl (k 0, 32, .inl (wf)))] s.heap := hP
  refine lv_aload_n hx hb dX2_howManyWith_0 rfl (lv_at hl 0 rfl) ?_
  refine va_get (D := D) (ci := 1) (v := .ref q_ahead) (C := RX2) (T := TX2) (N := 3) hx hb hts hiX2 hown hK hP 0 rfl rfl 0 (by decide) fl9 (fun _ h9 => h9) rfl dX2_howManyWith_1 ?_
  refine lv_iload_n hx hb dX2_howManyWith_4 rfl (lv_at hl 2 rfl) ?_
  refine va_iald hx hb hK hP 1 0 rfl rfl (hs_in (by decide)) dX2_howManyWith_5 ?_
  refine hs_topi 0 (by first | rfl | decide +kernel) ?_
  refine lv_istore_n (lv' := [(3, .int 0), (0, .ref q), (1, .int 1), (2, .int 0)]) hx hb dX2_howManyWith_6 rfl hl (by decide) rfl (fun ls hl => ?_)
  refine lv_aload_n hx hb dX2_howManyWith_7 rfl (lv_at hl 1 rfl) ?_
  refine va_get (D := D) (ci := 1) (v := .ref q_ahead) (C := RX2) (T := TX2) (N := 3) hx hb hts hiX2 hown hK hP 0 rfl rfl 0 (by decide) fl9 (fun _ h9 => h9) rfl dX2_howManyWith_8 ?_
  refine lv_iload_n hx hb dX2_howManyWith_11 rfl (lv_at hl 3 rfl) ?_
  refine lv_iload_n hx hb dX2_howManyWith_12 rfl (lv_at hl 0 rfl) ?_
  refine lv_iconst (v := 1) hx hb dX2_howManyWith_13 (by decide) ?_
  refine lv_iload_n hx hb dX2_howManyWith_14 rfl (lv_at hl 2 rfl) ?_
  refine lv_ishl hx hb dX2_howManyWith_15 ?_
  refine hs_topi 2 (by first | rfl | decide +kernel) ?_
  refine lv_ior hx hb dX2_howManyWith_16 ?_
  refine hs_topi 2 (by first | rfl | decide +kernel) ?_
  refine va_iast hx hb hK hP hD hS 1 0 rfl rfl (hs_in (by decide)) dX2_howManyWith_17 (fun H locs hP hD hS => ?_)
  have hP : va_P D vwCl [(q, .inr (1, [.ref q_ahead, .ref q_ways, .int 2])), (q_ahead, .inl (k 0, 5, .inl (upd hsz 0 2))), (q_ways, .inl (k 0, 32, .inl (wf)))] H := hP
  have hD : va_D A [(q, .inr (1, [.ref q_ahead, .ref q_ways, .int 2])), (q_ahead, .inl (k 0, 5, .inl (upd hsz 0 2))), (q_ways, .inl (k 0, 32, .inl (wf)))] := hD
  refine lv_aload_n hx hb dX2_howManyWith_18 rfl (lv_at hl 1 rfl) ?_
  refine hs_ci (va_runV (As := []) (rest := []) ⟨hx, hb, hml, hown, hts⟩ (c_howMany_10 l D k _ q q_ahead q_ways wf) (cwV 0 hts gX2_howManyWith_X2_howMany rfl rfl rfl (by decide +kernel) ⟨Nat.le_of_ble_eq_true rfl, Nat.le_of_ble_eq_true rfl⟩) (hs_preV hK hN (hs_subP (w := [(q, .inr (1, [.ref q_ahead, .ref q_ways, .int 2])), (q_ahead, .inl (k 0, 5, .inl (upd hsz 0 2))), (q_ways, .inl (k 0, 32, .inl (wf)))]) hP [0, 1, 2] rfl) (hD.sub (ws' := [(q, .inr (1, [.ref q_ahead, .ref q_ways, .int 2])), (q_ahead, .inl (k 0, 5, .inl (upd hsz 0 2))), (q_ways, .inl (k 0, 32, .inl (wf)))]) [0, 1, 2] (by decide) rfl) (ci := 1) (q0 := 0) rfl rfl) rfl rfl hl.1 rfl (lv_room (Nat.le_of_ble_eq_true rfl)) dX2_howManyWith_19 ⟨Nat.le_of_ble_eq_true rfl, Nat.le_of_ble_eq_true rfl⟩) hP hD hS hA [0, 1, 2] [] [] rfl rfl (by decide) (by decide) [0, 1, 2] (fun u_3 => [(q, .inr (1, [.ref q_ahead, .ref q_ways, .int 2])), (q_ahead, .inl (k 0, 5, .inl (upd hsz 0 2))), (q_ways, .inl (k 0, 32, .inl (upd (upd (upd (upd wf 0 1) 1 0) 2 1) 3 1)))]) (fun _ => rfl) (by decide) (fun r_1 u_3 H locs hw_2 hP hD hS => ?_)
  have hP : va_P D vwCl [(q, .inr (1, [.ref q_ahead, .ref q_ways, .int 2])), (q_ahead, .inl (k 0, 5, .inl (upd hsz 0 2))), (q_ways, .inl (k 0, 32, .inl (upd (upd (upd (upd wf 0 1) 1 0) 2 1) 3 1)))] H := hP
  have hD : va_D A [(q, .inr (1, [.ref q_ahead, .ref q_ways, .int 2])), (q_ahead, .inl (k 0, 5, .inl (upd hsz 0 2))), (q_ways, .inl (k 0, 32, .inl (upd (upd (upd (upd wf 0 1) 1 0) 2 1) 3 1)))] := hD
  refine hs_topi 1 (hw_2.trans (by first | rfl | decide +kernel | rfl)) ?_
  refine lv_istore (lv' := [(4, .int 1), (3, .int 0), (0, .ref q), (1, .int 1), (2, .int 0)]) hx hb dX2_howManyWith_22 hl (by decide) rfl (fun ls hl => ?_)
  refine lv_aload_n hx hb dX2_howManyWith_24 rfl (lv_at hl 2 rfl) ?_
  refine va_get (D := D) (ci := 1) (v := .ref q_ahead) (C := RX2) (T := TX2) (N := 3) hx hb hts hiX2 hown hK hP 0 rfl rfl 0 (by decide) fl9 (fun _ h9 => h9) rfl dX2_howManyWith_25 ?_
  refine lv_iload_n hx hb dX2_howManyWith_28 rfl (lv_at hl 4 rfl) ?_
  refine lv_iload_n hx hb dX2_howManyWith_29 rfl (lv_at hl 1 rfl) ?_
  refine va_iast hx hb hK hP hD hS 1 0 rfl rfl (hs_in (by decide)) dX2_howManyWith_30 (fun H locs hP hD hS => ?_)
  have hE : upd (upd hsz 0 2) 0 0 = hsz := hs_uzz 0 2
  have hP : va_P D vwCl [(q, .inr (1, [.ref q_ahead, .ref q_ways, .int 2])), (q_ahead, .inl (k 0, 5, .inl (upd (upd hsz 0 2) 0 0))), (q_ways, .inl (k 0, 32, .inl (upd (upd (upd (upd wf 0 1) 1 0) 2 1) 3 1)))] H := hP
  have hD : va_D A [(q, .inr (1, [.ref q_ahead, .ref q_ways, .int 2])), (q_ahead, .inl (k 0, 5, .inl (upd (upd hsz 0 2) 0 0))), (q_ways, .inl (k 0, 32, .inl (upd (upd (upd (upd wf 0 1) 1 0) 2 1) 3 1)))] := hD
  rw [hE] at hP hD
  refine lv_iload hx hb dX2_howManyWith_31 (lv_at hl 0 rfl) ?_
  exact hs_iret hx hb hr hlocks hK hP hD hS () [0, 1, 2] rfl (by decide) dX2_howManyWith_33 (rfl)

set_option maxHeartbeats 4000000 in
set_option maxRecDepth 100000 in
theorem c_lightest0 (l : Launch) (D : va_G) (k : Nat → ClassId) (sz : Nat) (q : Nat) (q_ahead : Nat) (q_ways : Nat)  : MI l yX2_lightest wsX2_lightest ({ frames := 0, cells := 0, slots := 0, locals := 0 }) D k [.ref q] [(q, .inr (1, [.ref q_ahead, .ref q_ways, .int 2])), (q_ahead, .inl (k 0, 5, .inl (hsz)))] sz (fun (r : Int32) (u : Unit) => r = 3) (fun (u : Unit) => [(q, .inr (1, [.ref q_ahead, .ref q_ways, .int 2])), (q_ahead, .inl (k 0, 5, .inl (hsz)))]) := by
  refine Met.ofW (cc := cX2_lightest) (maxL := 3) (ret := (some .int)) (by decide) rfl ?_
  intro p e s m args below meth c s₁ B hml hv
  obtain ⟨rfl, hsz, hP, hK, hD0, hN⟩ := hv
  have hx := B.exec
  have hb := B.bytes
  have hr := B.returns
  have hlocks := B.notSynchronized
  have hts := atoms_spec (ws := wsX2_lightest) B.pre
  have hown : s.vm.findClass RX2 = some m.cls := findClass_of_methodNamed B.named
  have hiX2 : ∀ w ∈ u_ws RX2 TX2 3, w ∈ wsX2_lightest := by decide +kernel
  have fl24 := hts (.fieldLink RX2 24 "HalfScales$Ranks" "size" "I") (by decide +kernel)
  have fl9 := hts (.fieldLink RX2 9 "HalfScales$Ranks" "ahead" "[I") (by decide +kernel)
  subst hsz
  have hD := hD0.self (sz := s.heap.size)
  generalize hAe : va_A [(q, .inr (1, [.ref q_ahead, .ref q_ways, .int 2])), (q_ahead, .inl (k 0, 5, .inl (hsz)))] s.heap.size = A at hD ⊢
  have hA : ∀ q : Nat, s.heap.size ≤ q → A q := fun q h => by rw [← hAe]; exact Or.inr h
  have hS : va_S A s.heap s.heap [] := va_S.rf
  have hl := lv_entry ([.ref q]) (n := 3) (Nat.le_of_ble_eq_true rfl)
  rw [lg_entry_eq]
  generalize (lg_sl ([.ref q]) ++ List.replicate (3 - (lg_sl ([.ref q])).length) Slot.unset).toArray = ls at hl ⊢
  have hl : lv_has ls 3 [(0, .ref q)] := hl
  have hP : va_P D vwCl [(q, .inr (1, [.ref q_ahead, .ref q_ways, .int 2])), (q_ahead, .inl (k 0, 5, .inl (hsz)))] s.heap := hP
  refine lv_iconst (v := 0) hx hb dX2_lightest_0 (by decide) ?_
  refine lv_istore_n (lv' := [(1, .int 0), (0, .ref q)]) hx hb dX2_lightest_1 rfl hl (by decide) rfl (fun ls hl => ?_)
  refine lv_iconst (v := 0) hx hb dX2_lightest_2 (by decide) ?_
  refine lv_istore_n (lv' := [(2, .int 0), (1, .int 0), (0, .ref q)]) hx hb dX2_lightest_3 rfl hl (by decide) rfl (fun ls hl => ?_)
  refine lv_iload_n hx hb dX2_lightest_4 rfl (lv_at hl 0 rfl) ?_
  refine lv_aload_n hx hb dX2_lightest_5 rfl (lv_at hl 2 rfl) ?_
  refine va_get (D := D) (ci := 1) (v := .int 2) (C := RX2) (T := TX2) (N := 3) hx hb hts hiX2 hown hK hP 0 rfl rfl 2 (by decide) fl24 (fun _ h9 => h9) rfl dX2_lightest_6 ?_
  refine lv_icmp_ge (tgt := 33) hx hb dX2_lightest_9 (by decide) (fun c_1 => absurd c_1 (by decide)) (fun c_1 => ?_)
  refine lv_aload_n hx hb dX2_lightest_12 rfl (lv_at hl 2 rfl) ?_
  refine va_get (D := D) (ci := 1) (v := .ref q_ahead) (C := RX2) (T := TX2) (N := 3) hx hb hts hiX2 hown hK hP 0 rfl rfl 0 (by decide) fl9 (fun _ h9 => h9) rfl dX2_lightest_13 ?_
  refine lv_iload_n hx hb dX2_lightest_16 rfl (lv_at hl 0 rfl) ?_
  refine va_iald hx hb hK hP 1 0 rfl rfl (hs_in (by decide)) dX2_lightest_17 ?_
  refine hs_topi 0 (by first | rfl | decide +kernel) ?_
  refine lv_if_ne (tgt := 27) hx hb dX2_lightest_18 (by decide) (fun c_2 => absurd c_2 (by decide)) (fun c_2 => ?_)
  refine lv_iload_n hx hb dX2_lightest_21 rfl (lv_at hl 1 rfl) ?_
  refine lv_iconst (v := 1) hx hb dX2_lightest_22 (by decide) ?_
  refine lv_iload_n hx hb dX2_lightest_23 rfl (lv_at hl 0 rfl) ?_
  refine lv_ishl hx hb dX2_lightest_24 ?_
  refine hs_topi 1 (by first | rfl | decide +kernel) ?_
  refine lv_ior hx hb dX2_lightest_25 ?_
  refine hs_topi 1 (by first | rfl | decide +kernel) ?_
  refine lv_istore_n (lv' := [(1, .int 1), (2, .int 0), (0, .ref q)]) hx hb dX2_lightest_26 rfl hl (by decide) rfl (fun ls hl => ?_)
  refine lv_iinc (v := 1) (lv' := [(2, .int 1), (1, .int 1), (0, .ref q)]) hx hb dX2_lightest_27 hl (k := 1) rfl (by decide) (by decide) rfl (fun ls hl => ?_)
  refine lv_goto (tgt := 4) hx hb dX2_lightest_30 (by decide) ?_
  refine lv_iload_n hx hb dX2_lightest_4 rfl (lv_at hl 0 rfl) ?_
  refine lv_aload_n hx hb dX2_lightest_5 rfl (lv_at hl 2 rfl) ?_
  refine va_get (D := D) (ci := 1) (v := .int 2) (C := RX2) (T := TX2) (N := 3) hx hb hts hiX2 hown hK hP 0 rfl rfl 2 (by decide) fl24 (fun _ h9 => h9) rfl dX2_lightest_6 ?_
  refine lv_icmp_ge (tgt := 33) hx hb dX2_lightest_9 (by decide) (fun c_3 => absurd c_3 (by decide)) (fun c_3 => ?_)
  refine lv_aload_n hx hb dX2_lightest_12 rfl (lv_at hl 2 rfl) ?_
  refine va_get (D := D) (ci := 1) (v := .ref q_ahead) (C := RX2) (T := TX2) (N := 3) hx hb hts hiX2 hown hK hP 0 rfl rfl 0 (by decide) fl9 (fun _ h9 => h9) rfl dX2_lightest_13 ?_
  refine lv_iload_n hx hb dX2_lightest_16 rfl (lv_at hl 0 rfl) ?_
  refine va_iald hx hb hK hP 1 0 rfl rfl (hs_in (by decide)) dX2_lightest_17 ?_
  refine hs_topi 0 (by first | rfl | decide +kernel) ?_
  refine lv_if_ne (tgt := 27) hx hb dX2_lightest_18 (by decide) (fun c_4 => absurd c_4 (by decide)) (fun c_4 => ?_)
  refine lv_iload_n hx hb dX2_lightest_21 rfl (lv_at hl 1 rfl) ?_
  refine lv_iconst (v := 1) hx hb dX2_lightest_22 (by decide) ?_
  refine lv_iload_n hx hb dX2_lightest_23 rfl (lv_at hl 0 rfl) ?_
  refine lv_ishl hx hb dX2_lightest_24 ?_
  refine hs_topi 2 (by first | rfl | decide +kernel) ?_
  refine lv_ior hx hb dX2_lightest_25 ?_
  refine hs_topi 3 (by first | rfl | decide +kernel) ?_
  refine lv_istore_n (lv' := [(1, .int 3), (2, .int 1), (0, .ref q)]) hx hb dX2_lightest_26 rfl hl (by decide) rfl (fun ls hl => ?_)
  refine lv_iinc (v := 2) (lv' := [(2, .int 2), (1, .int 3), (0, .ref q)]) hx hb dX2_lightest_27 hl (k := 1) rfl (by decide) (by decide) rfl (fun ls hl => ?_)
  refine lv_goto (tgt := 4) hx hb dX2_lightest_30 (by decide) ?_
  refine lv_iload_n hx hb dX2_lightest_4 rfl (lv_at hl 0 rfl) ?_
  refine lv_aload_n hx hb dX2_lightest_5 rfl (lv_at hl 2 rfl) ?_
  refine va_get (D := D) (ci := 1) (v := .int 2) (C := RX2) (T := TX2) (N := 3) hx hb hts hiX2 hown hK hP 0 rfl rfl 2 (by decide) fl24 (fun _ h9 => h9) rfl dX2_lightest_6 ?_
  refine lv_icmp_ge (tgt := 33) hx hb dX2_lightest_9 (by decide) (fun c_5 => ?_) (fun c_5 => absurd c_5 (by decide))
  refine lv_iload_n hx hb dX2_lightest_33 rfl (lv_at hl 1 rfl) ?_
  exact hs_iret hx hb hr hlocks hK hP hD hS () [0, 1] rfl (by decide) dX2_lightest_34 (rfl)

set_option maxHeartbeats 4000000 in
set_option maxRecDepth 100000 in
theorem c_heaviest0 (l : Launch) (D : va_G) (k : Nat → ClassId) (sz : Nat) (q : Nat) (q_ahead : Nat) (q_ways : Nat)  : MI l yX2_heaviest wsX2_heaviest ({ frames := 0, cells := 0, slots := 0, locals := 0 }) D k [.ref q] [(q, .inr (1, [.ref q_ahead, .ref q_ways, .int 2])), (q_ahead, .inl (k 0, 5, .inl (hsz)))] sz (fun (r : Int32) (u : Unit) => r = 3) (fun (u : Unit) => [(q, .inr (1, [.ref q_ahead, .ref q_ways, .int 2])), (q_ahead, .inl (k 0, 5, .inl (hsz)))]) := by
  refine Met.ofW (cc := cX2_heaviest) (maxL := 3) (ret := (some .int)) (by decide) rfl ?_
  intro p e s m args below meth c s₁ B hml hv
  obtain ⟨rfl, hsz, hP, hK, hD0, hN⟩ := hv
  have hx := B.exec
  have hb := B.bytes
  have hr := B.returns
  have hlocks := B.notSynchronized
  have hts := atoms_spec (ws := wsX2_heaviest) B.pre
  have hown : s.vm.findClass RX2 = some m.cls := findClass_of_methodNamed B.named
  have hiX2 : ∀ w ∈ u_ws RX2 TX2 3, w ∈ wsX2_heaviest := by decide +kernel
  have fl24 := hts (.fieldLink RX2 24 "HalfScales$Ranks" "size" "I") (by decide +kernel)
  have fl9 := hts (.fieldLink RX2 9 "HalfScales$Ranks" "ahead" "[I") (by decide +kernel)
  subst hsz
  have hD := hD0.self (sz := s.heap.size)
  generalize hAe : va_A [(q, .inr (1, [.ref q_ahead, .ref q_ways, .int 2])), (q_ahead, .inl (k 0, 5, .inl (hsz)))] s.heap.size = A at hD ⊢
  have hA : ∀ q : Nat, s.heap.size ≤ q → A q := fun q h => by rw [← hAe]; exact Or.inr h
  have hS : va_S A s.heap s.heap [] := va_S.rf
  have hl := lv_entry ([.ref q]) (n := 3) (Nat.le_of_ble_eq_true rfl)
  rw [lg_entry_eq]
  generalize (lg_sl ([.ref q]) ++ List.replicate (3 - (lg_sl ([.ref q])).length) Slot.unset).toArray = ls at hl ⊢
  have hl : lv_has ls 3 [(0, .ref q)] := hl
  have hP : va_P D vwCl [(q, .inr (1, [.ref q_ahead, .ref q_ways, .int 2])), (q_ahead, .inl (k 0, 5, .inl (hsz)))] s.heap := hP
  refine lv_iconst (v := 1) hx hb dX2_heaviest_0 (by decide) ?_
  refine lv_aload_n hx hb dX2_heaviest_1 rfl (lv_at hl 0 rfl) ?_
  refine va_get (D := D) (ci := 1) (v := .int 2) (C := RX2) (T := TX2) (N := 3) hx hb hts hiX2 hown hK hP 0 rfl rfl 2 (by decide) fl24 (fun _ h9 => h9) rfl dX2_heaviest_2 ?_
  refine lv_ishl hx hb dX2_heaviest_5 ?_
  refine hs_topi 4 (by first | rfl | decide +kernel) ?_
  refine lv_iconst (v := 1) hx hb dX2_heaviest_6 (by decide) ?_
  refine lv_isub hx hb dX2_heaviest_7 ?_
  refine hs_topi 3 (by first | rfl | decide +kernel) ?_
  refine lv_istore_n (lv' := [(1, .int 3), (0, .ref q)]) hx hb dX2_heaviest_8 rfl hl (by decide) rfl (fun ls hl => ?_)
  refine lv_iconst (v := 0) hx hb dX2_heaviest_9 (by decide) ?_
  refine lv_istore_n (lv' := [(2, .int 0), (1, .int 3), (0, .ref q)]) hx hb dX2_heaviest_10 rfl hl (by decide) rfl (fun ls hl => ?_)
  refine lv_iload_n hx hb dX2_heaviest_11 rfl (lv_at hl 0 rfl) ?_
  refine lv_aload_n hx hb dX2_heaviest_12 rfl (lv_at hl 2 rfl) ?_
  refine va_get (D := D) (ci := 1) (v := .int 2) (C := RX2) (T := TX2) (N := 3) hx hb hts hiX2 hown hK hP 0 rfl rfl 2 (by decide) fl24 (fun _ h9 => h9) rfl dX2_heaviest_13 ?_
  refine lv_icmp_ge (tgt := 36) hx hb dX2_heaviest_16 (by decide) (fun c_1 => absurd c_1 (by decide)) (fun c_1 => ?_)
  refine lv_iload_n hx hb dX2_heaviest_19 rfl (lv_at hl 1 rfl) ?_
  refine lv_aload_n hx hb dX2_heaviest_20 rfl (lv_at hl 2 rfl) ?_
  refine va_get (D := D) (ci := 1) (v := .ref q_ahead) (C := RX2) (T := TX2) (N := 3) hx hb hts hiX2 hown hK hP 0 rfl rfl 0 (by decide) fl9 (fun _ h9 => h9) rfl dX2_heaviest_21 ?_
  refine lv_iload_n hx hb dX2_heaviest_24 rfl (lv_at hl 0 rfl) ?_
  refine va_iald hx hb hK hP 1 0 rfl rfl (hs_in (by decide)) dX2_heaviest_25 ?_
  refine hs_topi 0 (by first | rfl | decide +kernel) ?_
  refine lv_iconst (v := (-1)) hx hb dX2_heaviest_26 (by decide) ?_
  refine lv_ixor hx hb dX2_heaviest_27 ?_
  refine hs_topi (-1) (by first | rfl | decide +kernel) ?_
  refine lv_iand hx hb dX2_heaviest_28 ?_
  refine hs_topi 3 (by first | rfl | decide +kernel) ?_
  refine lv_istore_n (lv' := [(1, .int 3), (2, .int 0), (0, .ref q)]) hx hb dX2_heaviest_29 rfl hl (by decide) rfl (fun ls hl => ?_)
  refine lv_iinc (v := 1) (lv' := [(2, .int 1), (1, .int 3), (0, .ref q)]) hx hb dX2_heaviest_30 hl (k := 1) rfl (by decide) (by decide) rfl (fun ls hl => ?_)
  refine lv_goto (tgt := 11) hx hb dX2_heaviest_33 (by decide) ?_
  refine lv_iload_n hx hb dX2_heaviest_11 rfl (lv_at hl 0 rfl) ?_
  refine lv_aload_n hx hb dX2_heaviest_12 rfl (lv_at hl 2 rfl) ?_
  refine va_get (D := D) (ci := 1) (v := .int 2) (C := RX2) (T := TX2) (N := 3) hx hb hts hiX2 hown hK hP 0 rfl rfl 2 (by decide) fl24 (fun _ h9 => h9) rfl dX2_heaviest_13 ?_
  refine lv_icmp_ge (tgt := 36) hx hb dX2_heaviest_16 (by decide) (fun c_2 => absurd c_2 (by decide)) (fun c_2 => ?_)
  refine lv_iload_n hx hb dX2_heaviest_19 rfl (lv_at hl 1 rfl) ?_
  refine lv_aload_n hx hb dX2_heaviest_20 rfl (lv_at hl 2 rfl) ?_
  refine va_get (D := D) (ci := 1) (v := .ref q_ahead) (C := RX2) (T := TX2) (N := 3) hx hb hts hiX2 hown hK hP 0 rfl rfl 0 (by decide) fl9 (fun _ h9 => h9) rfl dX2_heaviest_21 ?_
  refine lv_iload_n hx hb dX2_heaviest_24 rfl (lv_at hl 0 rfl) ?_
  refine va_iald hx hb hK hP 1 0 rfl rfl (hs_in (by decide)) dX2_heaviest_25 ?_
  refine hs_topi 0 (by first | rfl | decide +kernel) ?_
  refine lv_iconst (v := (-1)) hx hb dX2_heaviest_26 (by decide) ?_
  refine lv_ixor hx hb dX2_heaviest_27 ?_
  refine hs_topi (-1) (by first | rfl | decide +kernel) ?_
  refine lv_iand hx hb dX2_heaviest_28 ?_
  refine hs_topi 3 (by first | rfl | decide +kernel) ?_
  refine lv_istore_n (lv' := [(1, .int 3), (2, .int 1), (0, .ref q)]) hx hb dX2_heaviest_29 rfl hl (by decide) rfl (fun ls hl => ?_)
  refine lv_iinc (v := 2) (lv' := [(2, .int 2), (1, .int 3), (0, .ref q)]) hx hb dX2_heaviest_30 hl (k := 1) rfl (by decide) (by decide) rfl (fun ls hl => ?_)
  refine lv_goto (tgt := 11) hx hb dX2_heaviest_33 (by decide) ?_
  refine lv_iload_n hx hb dX2_heaviest_11 rfl (lv_at hl 0 rfl) ?_
  refine lv_aload_n hx hb dX2_heaviest_12 rfl (lv_at hl 2 rfl) ?_
  refine va_get (D := D) (ci := 1) (v := .int 2) (C := RX2) (T := TX2) (N := 3) hx hb hts hiX2 hown hK hP 0 rfl rfl 2 (by decide) fl24 (fun _ h9 => h9) rfl dX2_heaviest_13 ?_
  refine lv_icmp_ge (tgt := 36) hx hb dX2_heaviest_16 (by decide) (fun c_3 => ?_) (fun c_3 => absurd c_3 (by decide))
  refine lv_iload_n hx hb dX2_heaviest_36 rfl (lv_at hl 1 rfl) ?_
  exact hs_iret hx hb hr hlocks hK hP hD hS () [0, 1] rfl (by decide) dX2_heaviest_37 (rfl)

set_option maxHeartbeats 4000000 in
set_option maxRecDepth 100000 in
theorem c_leastBehind_0 (l : Launch) (D : va_G) (k : Nat → ClassId) (sz : Nat) (q : Nat) (q_ahead : Nat) (q_ways : Nat)  : MI l yX2_leastBehind wsX2_leastBehind ({ frames := 1, cells := 0, slots := 0, locals := 22 }) D k [.ref q, .int 0] [(q, .inr (1, [.ref q_ahead, .ref q_ways, .int 2])), (q_ahead, .inl (k 0, 5, .inl (hsz)))] sz (fun (r : Int32) (u : Unit) => r = 0) (fun (u : Unit) => [(q, .inr (1, [.ref q_ahead, .ref q_ways, .int 2])), (q_ahead, .inl (k 0, 5, .inl (hsz)))]) := by
  refine Met.ofW (cc := cX2_leastBehind) (maxL := 3) (ret := (some .int)) (by decide) rfl ?_
  intro p e s m args below meth c s₁ B hml hv
  obtain ⟨rfl, hsz, hP, hK, hD0, hN⟩ := hv
  have hx := B.exec
  have hb := B.bytes
  have hr := B.returns
  have hlocks := B.notSynchronized
  have hts := atoms_spec (ws := wsX2_leastBehind) B.pre
  have hown : s.vm.findClass RX2 = some m.cls := findClass_of_methodNamed B.named
  have hiX2 : ∀ w ∈ u_ws RX2 TX2 3, w ∈ wsX2_leastBehind := by decide +kernel
  have fl24 := hts (.fieldLink RX2 24 "HalfScales$Ranks" "size" "I") (by decide +kernel)
  subst hsz
  have hD := hD0.self (sz := s.heap.size)
  generalize hAe : va_A [(q, .inr (1, [.ref q_ahead, .ref q_ways, .int 2])), (q_ahead, .inl (k 0, 5, .inl (hsz)))] s.heap.size = A at hD ⊢
  have hA : ∀ q : Nat, s.heap.size ≤ q → A q := fun q h => by rw [← hAe]; exact Or.inr h
  have hS : va_S A s.heap s.heap [] := va_S.rf
  have hl := lv_entry ([.ref q, .int 0]) (n := 3) (Nat.le_of_ble_eq_true rfl)
  rw [lg_entry_eq]
  generalize (lg_sl ([.ref q, .int 0]) ++ List.replicate (3 - (lg_sl ([.ref q, .int 0])).length) Slot.unset).toArray = ls at hl ⊢
  have hl : lv_has ls 3 [(0, .ref q), (1, .int 0)] := hl
  have hP : va_P D vwCl [(q, .inr (1, [.ref q_ahead, .ref q_ways, .int 2])), (q_ahead, .inl (k 0, 5, .inl (hsz)))] s.heap := hP
  refine lv_iconst (v := 0) hx hb dX2_leastBehind_0 (by decide) ?_
  refine lv_istore_n (lv' := [(2, .int 0), (0, .ref q), (1, .int 0)]) hx hb dX2_leastBehind_1 rfl hl (by decide) rfl (fun ls hl => ?_)
  refine lv_iload_n hx hb dX2_leastBehind_2 rfl (lv_at hl 0 rfl) ?_
  refine lv_aload_n hx hb dX2_leastBehind_3 rfl (lv_at hl 1 rfl) ?_
  refine va_get (D := D) (ci := 1) (v := .int 2) (C := RX2) (T := TX2) (N := 3) hx hb hts hiX2 hown hK hP 0 rfl rfl 2 (by decide) fl24 (fun _ h9 => h9) rfl dX2_leastBehind_4 ?_
  refine lv_icmp_ge (tgt := 35) hx hb dX2_leastBehind_7 (by decide) (fun c_1 => absurd c_1 (by decide)) (fun c_1 => ?_)
  refine lv_iload_n hx hb dX2_leastBehind_10 rfl (lv_at hl 2 rfl) ?_
  refine lv_iload_n hx hb dX2_leastBehind_11 rfl (lv_at hl 0 rfl) ?_
  refine lv_ishr hx hb dX2_leastBehind_12 ?_
  refine hs_topi 0 (by first | rfl | decide +kernel) ?_
  refine lv_iconst (v := 1) hx hb dX2_leastBehind_13 (by decide) ?_
  refine lv_iand hx hb dX2_leastBehind_14 ?_
  refine hs_topi 0 (by first | rfl | decide +kernel) ?_
  refine lv_if_ne (tgt := 29) hx hb dX2_leastBehind_15 (by decide) (fun c_2 => absurd c_2 (by decide)) (fun c_2 => ?_)
  refine lv_aload_n hx hb dX2_leastBehind_18 rfl (lv_at hl 1 rfl) ?_
  refine lv_iload_n hx hb dX2_leastBehind_19 rfl (lv_at hl 0 rfl) ?_
  refine lv_iload_n hx hb dX2_leastBehind_20 rfl (lv_at hl 2 rfl) ?_
  refine hs_ci (va_runV (As := [.int 0, .int 0]) (rest := []) ⟨hx, hb, hml, hown, hts⟩ (c_mayCome l D k _ q q_ahead q_ways 2 0 0 hsz (hs_in (by decide))) (cwV 2 hts gX2_leastBehind_X2_mayCome rfl rfl rfl (by decide +kernel) ⟨Nat.le_of_ble_eq_true rfl, Nat.le_of_ble_eq_true rfl⟩) (hs_preV hK hN (hs_subP (w := [(q, .inr (1, [.ref q_ahead, .ref q_ways, .int 2])), (q_ahead, .inl (k 0, 5, .inl (hsz)))]) hP [0, 1] rfl) (hD.sub (ws' := [(q, .inr (1, [.ref q_ahead, .ref q_ways, .int 2])), (q_ahead, .inl (k 0, 5, .inl (hsz)))]) [0, 1] (by decide) rfl) (ci := 1) (q0 := 0) rfl rfl) rfl rfl hl.1 rfl (lv_room (Nat.le_of_ble_eq_true rfl)) dX2_leastBehind_21 ⟨Nat.le_of_ble_eq_true rfl, Nat.le_of_ble_eq_true rfl⟩) hP hD hS hA [0, 1] [] [] rfl rfl (by decide) (by decide) [0, 1] (fun u_5 => [(q, .inr (1, [.ref q_ahead, .ref q_ways, .int 2])), (q_ahead, .inl (k 0, 5, .inl (hsz)))]) (fun _ => rfl) (by decide) (fun r_3 u_5 H locs hw_4 hP hD hS => ?_)
  have hP : va_P D vwCl [(q, .inr (1, [.ref q_ahead, .ref q_ways, .int 2])), (q_ahead, .inl (k 0, 5, .inl (hsz)))] H := hP
  have hD : va_D A [(q, .inr (1, [.ref q_ahead, .ref q_ways, .int 2])), (q_ahead, .inl (k 0, 5, .inl (hsz)))] := hD
  refine hs_topi 1 (hw_4.trans (by first | rfl | decide +kernel | rfl)) ?_
  refine lv_if_eq (tgt := 29) hx hb dX2_leastBehind_24 (by decide) (fun c_6 => absurd c_6 (by decide)) (fun c_6 => ?_)
  refine lv_iload_n hx hb dX2_leastBehind_27 rfl (lv_at hl 0 rfl) ?_
  exact hs_iret hx hb hr hlocks hK hP hD hS () [0, 1] rfl (by decide) dX2_leastBehind_28 (rfl)

set_option maxHeartbeats 4000000 in
set_option maxRecDepth 100000 in
theorem c_leastBehind_1 (l : Launch) (D : va_G) (k : Nat → ClassId) (sz : Nat) (q : Nat) (q_ahead : Nat) (q_ways : Nat)  : MI l yX2_leastBehind wsX2_leastBehind ({ frames := 1, cells := 0, slots := 0, locals := 22 }) D k [.ref q, .int 1] [(q, .inr (1, [.ref q_ahead, .ref q_ways, .int 2])), (q_ahead, .inl (k 0, 5, .inl (hsz)))] sz (fun (r : Int32) (u : Unit) => r = 1) (fun (u : Unit) => [(q, .inr (1, [.ref q_ahead, .ref q_ways, .int 2])), (q_ahead, .inl (k 0, 5, .inl (hsz)))]) := by
  refine Met.ofW (cc := cX2_leastBehind) (maxL := 3) (ret := (some .int)) (by decide) rfl ?_
  intro p e s m args below meth c s₁ B hml hv
  obtain ⟨rfl, hsz, hP, hK, hD0, hN⟩ := hv
  have hx := B.exec
  have hb := B.bytes
  have hr := B.returns
  have hlocks := B.notSynchronized
  have hts := atoms_spec (ws := wsX2_leastBehind) B.pre
  have hown : s.vm.findClass RX2 = some m.cls := findClass_of_methodNamed B.named
  have hiX2 : ∀ w ∈ u_ws RX2 TX2 3, w ∈ wsX2_leastBehind := by decide +kernel
  have fl24 := hts (.fieldLink RX2 24 "HalfScales$Ranks" "size" "I") (by decide +kernel)
  subst hsz
  have hD := hD0.self (sz := s.heap.size)
  generalize hAe : va_A [(q, .inr (1, [.ref q_ahead, .ref q_ways, .int 2])), (q_ahead, .inl (k 0, 5, .inl (hsz)))] s.heap.size = A at hD ⊢
  have hA : ∀ q : Nat, s.heap.size ≤ q → A q := fun q h => by rw [← hAe]; exact Or.inr h
  have hS : va_S A s.heap s.heap [] := va_S.rf
  have hl := lv_entry ([.ref q, .int 1]) (n := 3) (Nat.le_of_ble_eq_true rfl)
  rw [lg_entry_eq]
  generalize (lg_sl ([.ref q, .int 1]) ++ List.replicate (3 - (lg_sl ([.ref q, .int 1])).length) Slot.unset).toArray = ls at hl ⊢
  have hl : lv_has ls 3 [(0, .ref q), (1, .int 1)] := hl
  have hP : va_P D vwCl [(q, .inr (1, [.ref q_ahead, .ref q_ways, .int 2])), (q_ahead, .inl (k 0, 5, .inl (hsz)))] s.heap := hP
  refine lv_iconst (v := 0) hx hb dX2_leastBehind_0 (by decide) ?_
  refine lv_istore_n (lv' := [(2, .int 0), (0, .ref q), (1, .int 1)]) hx hb dX2_leastBehind_1 rfl hl (by decide) rfl (fun ls hl => ?_)
  refine lv_iload_n hx hb dX2_leastBehind_2 rfl (lv_at hl 0 rfl) ?_
  refine lv_aload_n hx hb dX2_leastBehind_3 rfl (lv_at hl 1 rfl) ?_
  refine va_get (D := D) (ci := 1) (v := .int 2) (C := RX2) (T := TX2) (N := 3) hx hb hts hiX2 hown hK hP 0 rfl rfl 2 (by decide) fl24 (fun _ h9 => h9) rfl dX2_leastBehind_4 ?_
  refine lv_icmp_ge (tgt := 35) hx hb dX2_leastBehind_7 (by decide) (fun c_1 => absurd c_1 (by decide)) (fun c_1 => ?_)
  refine lv_iload_n hx hb dX2_leastBehind_10 rfl (lv_at hl 2 rfl) ?_
  refine lv_iload_n hx hb dX2_leastBehind_11 rfl (lv_at hl 0 rfl) ?_
  refine lv_ishr hx hb dX2_leastBehind_12 ?_
  refine hs_topi 1 (by first | rfl | decide +kernel) ?_
  refine lv_iconst (v := 1) hx hb dX2_leastBehind_13 (by decide) ?_
  refine lv_iand hx hb dX2_leastBehind_14 ?_
  refine hs_topi 1 (by first | rfl | decide +kernel) ?_
  refine lv_if_ne (tgt := 29) hx hb dX2_leastBehind_15 (by decide) (fun c_2 => ?_) (fun c_2 => absurd c_2 (by decide))
  refine lv_iinc (v := 1) (lv' := [(2, .int 1), (0, .ref q), (1, .int 1)]) hx hb dX2_leastBehind_29 hl (k := 0) rfl (by decide) (by decide) rfl (fun ls hl => ?_)
  refine lv_goto (tgt := 2) hx hb dX2_leastBehind_32 (by decide) ?_
  refine lv_iload_n hx hb dX2_leastBehind_2 rfl (lv_at hl 0 rfl) ?_
  refine lv_aload_n hx hb dX2_leastBehind_3 rfl (lv_at hl 1 rfl) ?_
  refine va_get (D := D) (ci := 1) (v := .int 2) (C := RX2) (T := TX2) (N := 3) hx hb hts hiX2 hown hK hP 0 rfl rfl 2 (by decide) fl24 (fun _ h9 => h9) rfl dX2_leastBehind_4 ?_
  refine lv_icmp_ge (tgt := 35) hx hb dX2_leastBehind_7 (by decide) (fun c_3 => absurd c_3 (by decide)) (fun c_3 => ?_)
  refine lv_iload_n hx hb dX2_leastBehind_10 rfl (lv_at hl 2 rfl) ?_
  refine lv_iload_n hx hb dX2_leastBehind_11 rfl (lv_at hl 0 rfl) ?_
  refine lv_ishr hx hb dX2_leastBehind_12 ?_
  refine hs_topi 0 (by first | rfl | decide +kernel) ?_
  refine lv_iconst (v := 1) hx hb dX2_leastBehind_13 (by decide) ?_
  refine lv_iand hx hb dX2_leastBehind_14 ?_
  refine hs_topi 0 (by first | rfl | decide +kernel) ?_
  refine lv_if_ne (tgt := 29) hx hb dX2_leastBehind_15 (by decide) (fun c_4 => absurd c_4 (by decide)) (fun c_4 => ?_)
  refine lv_aload_n hx hb dX2_leastBehind_18 rfl (lv_at hl 1 rfl) ?_
  refine lv_iload_n hx hb dX2_leastBehind_19 rfl (lv_at hl 0 rfl) ?_
  refine lv_iload_n hx hb dX2_leastBehind_20 rfl (lv_at hl 2 rfl) ?_
  refine hs_ci (va_runV (As := [.int 1, .int 1]) (rest := []) ⟨hx, hb, hml, hown, hts⟩ (c_mayCome l D k _ q q_ahead q_ways 2 1 1 hsz (hs_in (by decide))) (cwV 2 hts gX2_leastBehind_X2_mayCome rfl rfl rfl (by decide +kernel) ⟨Nat.le_of_ble_eq_true rfl, Nat.le_of_ble_eq_true rfl⟩) (hs_preV hK hN (hs_subP (w := [(q, .inr (1, [.ref q_ahead, .ref q_ways, .int 2])), (q_ahead, .inl (k 0, 5, .inl (hsz)))]) hP [0, 1] rfl) (hD.sub (ws' := [(q, .inr (1, [.ref q_ahead, .ref q_ways, .int 2])), (q_ahead, .inl (k 0, 5, .inl (hsz)))]) [0, 1] (by decide) rfl) (ci := 1) (q0 := 0) rfl rfl) rfl rfl hl.1 rfl (lv_room (Nat.le_of_ble_eq_true rfl)) dX2_leastBehind_21 ⟨Nat.le_of_ble_eq_true rfl, Nat.le_of_ble_eq_true rfl⟩) hP hD hS hA [0, 1] [] [] rfl rfl (by decide) (by decide) [0, 1] (fun u_7 => [(q, .inr (1, [.ref q_ahead, .ref q_ways, .int 2])), (q_ahead, .inl (k 0, 5, .inl (hsz)))]) (fun _ => rfl) (by decide) (fun r_5 u_7 H locs hw_6 hP hD hS => ?_)
  have hP : va_P D vwCl [(q, .inr (1, [.ref q_ahead, .ref q_ways, .int 2])), (q_ahead, .inl (k 0, 5, .inl (hsz)))] H := hP
  have hD : va_D A [(q, .inr (1, [.ref q_ahead, .ref q_ways, .int 2])), (q_ahead, .inl (k 0, 5, .inl (hsz)))] := hD
  refine hs_topi 1 (hw_6.trans (by first | rfl | decide +kernel | rfl)) ?_
  refine lv_if_eq (tgt := 29) hx hb dX2_leastBehind_24 (by decide) (fun c_8 => absurd c_8 (by decide)) (fun c_8 => ?_)
  refine lv_iload_n hx hb dX2_leastBehind_27 rfl (lv_at hl 0 rfl) ?_
  exact hs_iret hx hb hr hlocks hK hP hD hS () [0, 1] rfl (by decide) dX2_leastBehind_28 (rfl)

set_option maxHeartbeats 4000000 in
set_option maxRecDepth 100000 in
theorem c_ofFirst_0 (l : Launch) (D : va_G) (k : Nat → ClassId) (sz : Nat) (q : Nat) (q_ahead : Nat) (q_ways : Nat)  : MI l yX2_ofFirst wsX2_ofFirst ({ frames := 2, cells := 0, slots := 0, locals := 44 }) D k [.ref q, .int 0] [(q, .inr (1, [.ref q_ahead, .ref q_ways, .int 2])), (q_ahead, .inl (k 0, 5, .inl (hsz)))] sz (fun (r : Int32) (u : Unit) => r = 0) (fun (u : Unit) => [(q, .inr (1, [.ref q_ahead, .ref q_ways, .int 2])), (q_ahead, .inl (k 0, 5, .inl (hsz)))]) := by
  refine Met.ofW (cc := cX2_ofFirst) (maxL := 5) (ret := (some .int)) (by decide) rfl ?_
  intro p e s m args below meth c s₁ B hml hv
  obtain ⟨rfl, hsz, hP, hK, hD0, hN⟩ := hv
  have hx := B.exec
  have hb := B.bytes
  have hr := B.returns
  have hlocks := B.notSynchronized
  have hts := atoms_spec (ws := wsX2_ofFirst) B.pre
  have hown : s.vm.findClass RX2 = some m.cls := findClass_of_methodNamed B.named
  subst hsz
  have hD := hD0.self (sz := s.heap.size)
  generalize hAe : va_A [(q, .inr (1, [.ref q_ahead, .ref q_ways, .int 2])), (q_ahead, .inl (k 0, 5, .inl (hsz)))] s.heap.size = A at hD ⊢
  have hA : ∀ q : Nat, s.heap.size ≤ q → A q := fun q h => by rw [← hAe]; exact Or.inr h
  have hS : va_S A s.heap s.heap [] := va_S.rf
  have hl := lv_entry ([.ref q, .int 0]) (n := 5) (Nat.le_of_ble_eq_true rfl)
  rw [lg_entry_eq]
  generalize (lg_sl ([.ref q, .int 0]) ++ List.replicate (5 - (lg_sl ([.ref q, .int 0])).length) Slot.unset).toArray = ls at hl ⊢
  have hl : lv_has ls 5 [(0, .ref q), (1, .int 0)] := hl
  have hP : va_P D vwCl [(q, .inr (1, [.ref q_ahead, .ref q_ways, .int 2])), (q_ahead, .inl (k 0, 5, .inl (hsz)))] s.heap := hP
  refine lv_iconst (v := 0) hx hb dX2_ofFirst_0 (by decide) ?_
  refine lv_istore_n (lv' := [(2, .int 0), (0, .ref q), (1, .int 0)]) hx hb dX2_ofFirst_1 rfl hl (by decide) rfl (fun ls hl => ?_)
  refine lv_bipush (v := (-4)) hx hb dX2_ofFirst_2 (by decide) ?_
  refine lv_istore_n (lv' := [(3, .int (-4)), (2, .int 0), (0, .ref q), (1, .int 0)]) hx hb dX2_ofFirst_4 rfl hl (by decide) rfl (fun ls hl => ?_)
  refine lv_iconst (v := 0) hx hb dX2_ofFirst_5 (by decide) ?_
  refine lv_istore (lv' := [(4, .int 0), (3, .int (-4)), (2, .int 0), (0, .ref q), (1, .int 0)]) hx hb dX2_ofFirst_6 hl (by decide) rfl (fun ls hl => ?_)
  refine lv_iload hx hb dX2_ofFirst_8 (lv_at hl 0 rfl) ?_
  refine lv_iload_n hx hb dX2_ofFirst_10 rfl (lv_at hl 4 rfl) ?_
  refine lv_icmp_gt (tgt := 41) hx hb dX2_ofFirst_11 (by decide) (fun c_1 => absurd c_1 (by decide)) (fun c_1 => ?_)
  refine lv_aload_n hx hb dX2_ofFirst_14 rfl (lv_at hl 3 rfl) ?_
  refine lv_iload_n hx hb dX2_ofFirst_15 rfl (lv_at hl 2 rfl) ?_
  refine hs_ci (va_runV (As := [.int 0]) (rest := []) ⟨hx, hb, hml, hown, hts⟩ (c_leastBehind_0 l D k _ q q_ahead q_ways) (cwV 1 hts gX2_ofFirst_X2_leastBehind rfl rfl rfl (by decide +kernel) ⟨Nat.le_of_ble_eq_true rfl, Nat.le_of_ble_eq_true rfl⟩) (hs_preV hK hN (hs_subP (w := [(q, .inr (1, [.ref q_ahead, .ref q_ways, .int 2])), (q_ahead, .inl (k 0, 5, .inl (hsz)))]) hP [0, 1] rfl) (hD.sub (ws' := [(q, .inr (1, [.ref q_ahead, .ref q_ways, .int 2])), (q_ahead, .inl (k 0, 5, .inl (hsz)))]) [0, 1] (by decide) rfl) (ci := 1) (q0 := 0) rfl rfl) rfl rfl hl.1 rfl (lv_room (Nat.le_of_ble_eq_true rfl)) dX2_ofFirst_16 ⟨Nat.le_of_ble_eq_true rfl, Nat.le_of_ble_eq_true rfl⟩) hP hD hS hA [0, 1] [] [] rfl rfl (by decide) (by decide) [0, 1] (fun u_4 => [(q, .inr (1, [.ref q_ahead, .ref q_ways, .int 2])), (q_ahead, .inl (k 0, 5, .inl (hsz)))]) (fun _ => rfl) (by decide) (fun r_2 u_4 H locs hw_3 hP hD hS => ?_)
  have hP : va_P D vwCl [(q, .inr (1, [.ref q_ahead, .ref q_ways, .int 2])), (q_ahead, .inl (k 0, 5, .inl (hsz)))] H := hP
  have hD : va_D A [(q, .inr (1, [.ref q_ahead, .ref q_ways, .int 2])), (q_ahead, .inl (k 0, 5, .inl (hsz)))] := hD
  refine hs_topi 0 (hw_3.trans (by first | rfl | decide +kernel | rfl)) ?_
  refine lv_istore_n (lv' := [(3, .int 0), (4, .int 0), (2, .int 0), (0, .ref q), (1, .int 0)]) hx hb dX2_ofFirst_19 rfl hl (by decide) rfl (fun ls hl => ?_)
  refine lv_iload_n hx hb dX2_ofFirst_20 rfl (lv_at hl 0 rfl) ?_
  refine lv_bipush (v := (-4)) hx hb dX2_ofFirst_21 (by decide) ?_
  refine lv_icmp_ne (tgt := 29) hx hb dX2_ofFirst_23 (by decide) (fun c_5 => ?_) (fun c_5 => absurd c_5 (by decide))
  refine lv_iload_n hx hb dX2_ofFirst_29 rfl (lv_at hl 2 rfl) ?_
  refine lv_iconst (v := 1) hx hb dX2_ofFirst_30 (by decide) ?_
  refine lv_iload_n hx hb dX2_ofFirst_31 rfl (lv_at hl 0 rfl) ?_
  refine lv_ishl hx hb dX2_ofFirst_32 ?_
  refine hs_topi 1 (by first | rfl | decide +kernel) ?_
  refine lv_ior hx hb dX2_ofFirst_33 ?_
  refine hs_topi 1 (by first | rfl | decide +kernel) ?_
  refine lv_istore_n (lv' := [(2, .int 1), (3, .int 0), (4, .int 0), (0, .ref q), (1, .int 0)]) hx hb dX2_ofFirst_34 rfl hl (by decide) rfl (fun ls hl => ?_)
  refine lv_iinc (v := 1) (lv' := [(4, .int 1), (2, .int 1), (3, .int 0), (0, .ref q), (1, .int 0)]) hx hb dX2_ofFirst_35 hl (k := 2) rfl (by decide) (by decide) rfl (fun ls hl => ?_)
  refine lv_goto (tgt := 8) hx hb dX2_ofFirst_38 (by decide) ?_
  refine lv_iload hx hb dX2_ofFirst_8 (lv_at hl 0 rfl) ?_
  refine lv_iload_n hx hb dX2_ofFirst_10 rfl (lv_at hl 4 rfl) ?_
  refine lv_icmp_gt (tgt := 41) hx hb dX2_ofFirst_11 (by decide) (fun c_6 => ?_) (fun c_6 => absurd c_6 (by decide))
  refine lv_iload_n hx hb dX2_ofFirst_41 rfl (lv_at hl 2 rfl) ?_
  exact hs_iret hx hb hr hlocks hK hP hD hS () [0, 1] rfl (by decide) dX2_ofFirst_42 (rfl)

set_option maxHeartbeats 4000000 in
set_option maxRecDepth 100000 in
theorem c_ofFirst_1 (l : Launch) (D : va_G) (k : Nat → ClassId) (sz : Nat) (q : Nat) (q_ahead : Nat) (q_ways : Nat)  : MI l yX2_ofFirst wsX2_ofFirst ({ frames := 2, cells := 0, slots := 0, locals := 44 }) D k [.ref q, .int 1] [(q, .inr (1, [.ref q_ahead, .ref q_ways, .int 2])), (q_ahead, .inl (k 0, 5, .inl (hsz)))] sz (fun (r : Int32) (u : Unit) => r = 1) (fun (u : Unit) => [(q, .inr (1, [.ref q_ahead, .ref q_ways, .int 2])), (q_ahead, .inl (k 0, 5, .inl (hsz)))]) := by
  refine Met.ofW (cc := cX2_ofFirst) (maxL := 5) (ret := (some .int)) (by decide) rfl ?_
  intro p e s m args below meth c s₁ B hml hv
  obtain ⟨rfl, hsz, hP, hK, hD0, hN⟩ := hv
  have hx := B.exec
  have hb := B.bytes
  have hr := B.returns
  have hlocks := B.notSynchronized
  have hts := atoms_spec (ws := wsX2_ofFirst) B.pre
  have hown : s.vm.findClass RX2 = some m.cls := findClass_of_methodNamed B.named
  subst hsz
  have hD := hD0.self (sz := s.heap.size)
  generalize hAe : va_A [(q, .inr (1, [.ref q_ahead, .ref q_ways, .int 2])), (q_ahead, .inl (k 0, 5, .inl (hsz)))] s.heap.size = A at hD ⊢
  have hA : ∀ q : Nat, s.heap.size ≤ q → A q := fun q h => by rw [← hAe]; exact Or.inr h
  have hS : va_S A s.heap s.heap [] := va_S.rf
  have hl := lv_entry ([.ref q, .int 1]) (n := 5) (Nat.le_of_ble_eq_true rfl)
  rw [lg_entry_eq]
  generalize (lg_sl ([.ref q, .int 1]) ++ List.replicate (5 - (lg_sl ([.ref q, .int 1])).length) Slot.unset).toArray = ls at hl ⊢
  have hl : lv_has ls 5 [(0, .ref q), (1, .int 1)] := hl
  have hP : va_P D vwCl [(q, .inr (1, [.ref q_ahead, .ref q_ways, .int 2])), (q_ahead, .inl (k 0, 5, .inl (hsz)))] s.heap := hP
  refine lv_iconst (v := 0) hx hb dX2_ofFirst_0 (by decide) ?_
  refine lv_istore_n (lv' := [(2, .int 0), (0, .ref q), (1, .int 1)]) hx hb dX2_ofFirst_1 rfl hl (by decide) rfl (fun ls hl => ?_)
  refine lv_bipush (v := (-4)) hx hb dX2_ofFirst_2 (by decide) ?_
  refine lv_istore_n (lv' := [(3, .int (-4)), (2, .int 0), (0, .ref q), (1, .int 1)]) hx hb dX2_ofFirst_4 rfl hl (by decide) rfl (fun ls hl => ?_)
  refine lv_iconst (v := 0) hx hb dX2_ofFirst_5 (by decide) ?_
  refine lv_istore (lv' := [(4, .int 0), (3, .int (-4)), (2, .int 0), (0, .ref q), (1, .int 1)]) hx hb dX2_ofFirst_6 hl (by decide) rfl (fun ls hl => ?_)
  refine lv_iload hx hb dX2_ofFirst_8 (lv_at hl 0 rfl) ?_
  refine lv_iload_n hx hb dX2_ofFirst_10 rfl (lv_at hl 4 rfl) ?_
  refine lv_icmp_gt (tgt := 41) hx hb dX2_ofFirst_11 (by decide) (fun c_1 => absurd c_1 (by decide)) (fun c_1 => ?_)
  refine lv_aload_n hx hb dX2_ofFirst_14 rfl (lv_at hl 3 rfl) ?_
  refine lv_iload_n hx hb dX2_ofFirst_15 rfl (lv_at hl 2 rfl) ?_
  refine hs_ci (va_runV (As := [.int 0]) (rest := []) ⟨hx, hb, hml, hown, hts⟩ (c_leastBehind_0 l D k _ q q_ahead q_ways) (cwV 1 hts gX2_ofFirst_X2_leastBehind rfl rfl rfl (by decide +kernel) ⟨Nat.le_of_ble_eq_true rfl, Nat.le_of_ble_eq_true rfl⟩) (hs_preV hK hN (hs_subP (w := [(q, .inr (1, [.ref q_ahead, .ref q_ways, .int 2])), (q_ahead, .inl (k 0, 5, .inl (hsz)))]) hP [0, 1] rfl) (hD.sub (ws' := [(q, .inr (1, [.ref q_ahead, .ref q_ways, .int 2])), (q_ahead, .inl (k 0, 5, .inl (hsz)))]) [0, 1] (by decide) rfl) (ci := 1) (q0 := 0) rfl rfl) rfl rfl hl.1 rfl (lv_room (Nat.le_of_ble_eq_true rfl)) dX2_ofFirst_16 ⟨Nat.le_of_ble_eq_true rfl, Nat.le_of_ble_eq_true rfl⟩) hP hD hS hA [0, 1] [] [] rfl rfl (by decide) (by decide) [0, 1] (fun u_4 => [(q, .inr (1, [.ref q_ahead, .ref q_ways, .int 2])), (q_ahead, .inl (k 0, 5, .inl (hsz)))]) (fun _ => rfl) (by decide) (fun r_2 u_4 H locs hw_3 hP hD hS => ?_)
  have hP : va_P D vwCl [(q, .inr (1, [.ref q_ahead, .ref q_ways, .int 2])), (q_ahead, .inl (k 0, 5, .inl (hsz)))] H := hP
  have hD : va_D A [(q, .inr (1, [.ref q_ahead, .ref q_ways, .int 2])), (q_ahead, .inl (k 0, 5, .inl (hsz)))] := hD
  refine hs_topi 0 (hw_3.trans (by first | rfl | decide +kernel | rfl)) ?_
  refine lv_istore_n (lv' := [(3, .int 0), (4, .int 0), (2, .int 0), (0, .ref q), (1, .int 1)]) hx hb dX2_ofFirst_19 rfl hl (by decide) rfl (fun ls hl => ?_)
  refine lv_iload_n hx hb dX2_ofFirst_20 rfl (lv_at hl 0 rfl) ?_
  refine lv_bipush (v := (-4)) hx hb dX2_ofFirst_21 (by decide) ?_
  refine lv_icmp_ne (tgt := 29) hx hb dX2_ofFirst_23 (by decide) (fun c_5 => ?_) (fun c_5 => absurd c_5 (by decide))
  refine lv_iload_n hx hb dX2_ofFirst_29 rfl (lv_at hl 2 rfl) ?_
  refine lv_iconst (v := 1) hx hb dX2_ofFirst_30 (by decide) ?_
  refine lv_iload_n hx hb dX2_ofFirst_31 rfl (lv_at hl 0 rfl) ?_
  refine lv_ishl hx hb dX2_ofFirst_32 ?_
  refine hs_topi 1 (by first | rfl | decide +kernel) ?_
  refine lv_ior hx hb dX2_ofFirst_33 ?_
  refine hs_topi 1 (by first | rfl | decide +kernel) ?_
  refine lv_istore_n (lv' := [(2, .int 1), (3, .int 0), (4, .int 0), (0, .ref q), (1, .int 1)]) hx hb dX2_ofFirst_34 rfl hl (by decide) rfl (fun ls hl => ?_)
  refine lv_iinc (v := 1) (lv' := [(4, .int 1), (2, .int 1), (3, .int 0), (0, .ref q), (1, .int 1)]) hx hb dX2_ofFirst_35 hl (k := 2) rfl (by decide) (by decide) rfl (fun ls hl => ?_)
  refine lv_goto (tgt := 8) hx hb dX2_ofFirst_38 (by decide) ?_
  refine lv_iload hx hb dX2_ofFirst_8 (lv_at hl 0 rfl) ?_
  refine lv_iload_n hx hb dX2_ofFirst_10 rfl (lv_at hl 4 rfl) ?_
  refine lv_icmp_gt (tgt := 41) hx hb dX2_ofFirst_11 (by decide) (fun c_6 => absurd c_6 (by decide)) (fun c_6 => ?_)
  refine lv_aload_n hx hb dX2_ofFirst_14 rfl (lv_at hl 3 rfl) ?_
  refine lv_iload_n hx hb dX2_ofFirst_15 rfl (lv_at hl 1 rfl) ?_
  refine hs_ci (va_runV (As := [.int 1]) (rest := []) ⟨hx, hb, hml, hown, hts⟩ (c_leastBehind_1 l D k _ q q_ahead q_ways) (cwV 1 hts gX2_ofFirst_X2_leastBehind rfl rfl rfl (by decide +kernel) ⟨Nat.le_of_ble_eq_true rfl, Nat.le_of_ble_eq_true rfl⟩) (hs_preV hK hN (hs_subP (w := [(q, .inr (1, [.ref q_ahead, .ref q_ways, .int 2])), (q_ahead, .inl (k 0, 5, .inl (hsz)))]) hP [0, 1] rfl) (hD.sub (ws' := [(q, .inr (1, [.ref q_ahead, .ref q_ways, .int 2])), (q_ahead, .inl (k 0, 5, .inl (hsz)))]) [0, 1] (by decide) rfl) (ci := 1) (q0 := 0) rfl rfl) rfl rfl hl.1 rfl (lv_room (Nat.le_of_ble_eq_true rfl)) dX2_ofFirst_16 ⟨Nat.le_of_ble_eq_true rfl, Nat.le_of_ble_eq_true rfl⟩) hP hD hS hA [0, 1] [] [] rfl rfl (by decide) (by decide) [0, 1] (fun u_9 => [(q, .inr (1, [.ref q_ahead, .ref q_ways, .int 2])), (q_ahead, .inl (k 0, 5, .inl (hsz)))]) (fun _ => rfl) (by decide) (fun r_7 u_9 H locs hw_8 hP hD hS => ?_)
  have hP : va_P D vwCl [(q, .inr (1, [.ref q_ahead, .ref q_ways, .int 2])), (q_ahead, .inl (k 0, 5, .inl (hsz)))] H := hP
  have hD : va_D A [(q, .inr (1, [.ref q_ahead, .ref q_ways, .int 2])), (q_ahead, .inl (k 0, 5, .inl (hsz)))] := hD
  refine hs_topi 1 (hw_8.trans (by first | rfl | decide +kernel | rfl)) ?_
  refine lv_istore_n (lv' := [(3, .int 1), (4, .int 1), (2, .int 1), (0, .ref q), (1, .int 1)]) hx hb dX2_ofFirst_19 rfl hl (by decide) rfl (fun ls hl => ?_)
  refine lv_iload_n hx hb dX2_ofFirst_20 rfl (lv_at hl 0 rfl) ?_
  refine lv_bipush (v := (-4)) hx hb dX2_ofFirst_21 (by decide) ?_
  refine lv_icmp_ne (tgt := 29) hx hb dX2_ofFirst_23 (by decide) (fun c_10 => ?_) (fun c_10 => absurd c_10 (by decide))
  refine lv_iload_n hx hb dX2_ofFirst_29 rfl (lv_at hl 2 rfl) ?_
  refine lv_iconst (v := 1) hx hb dX2_ofFirst_30 (by decide) ?_
  refine lv_iload_n hx hb dX2_ofFirst_31 rfl (lv_at hl 0 rfl) ?_
  refine lv_ishl hx hb dX2_ofFirst_32 ?_
  refine hs_topi 2 (by first | rfl | decide +kernel) ?_
  refine lv_ior hx hb dX2_ofFirst_33 ?_
  refine hs_topi 3 (by first | rfl | decide +kernel) ?_
  refine lv_istore_n (lv' := [(2, .int 3), (3, .int 1), (4, .int 1), (0, .ref q), (1, .int 1)]) hx hb dX2_ofFirst_34 rfl hl (by decide) rfl (fun ls hl => ?_)
  refine lv_iinc (v := 2) (lv' := [(4, .int 2), (2, .int 3), (3, .int 1), (0, .ref q), (1, .int 1)]) hx hb dX2_ofFirst_35 hl (k := 2) rfl (by decide) (by decide) rfl (fun ls hl => ?_)
  refine lv_goto (tgt := 8) hx hb dX2_ofFirst_38 (by decide) ?_
  refine lv_iload hx hb dX2_ofFirst_8 (lv_at hl 0 rfl) ?_
  refine lv_iload_n hx hb dX2_ofFirst_10 rfl (lv_at hl 4 rfl) ?_
  refine lv_icmp_gt (tgt := 41) hx hb dX2_ofFirst_11 (by decide) (fun c_11 => ?_) (fun c_11 => absurd c_11 (by decide))
  refine lv_iload_n hx hb dX2_ofFirst_41 rfl (lv_at hl 2 rfl) ?_
  exact hs_iret hx hb hr hlocks hK hP hD hS () [0, 1] rfl (by decide) dX2_ofFirst_42 (rfl)

set_option maxHeartbeats 4000000 in
set_option maxRecDepth 100000 in
theorem c_lowest_1_0 (l : Launch) (D : va_G) (k : Nat → ClassId) (sz : Nat)   : ML l yX0_lowest wsX0_lowest ({ frames := 0, cells := 0, slots := 0, locals := 0 }) D k [.long 0, .long 1, .int 0] [] sz (fun (r : Int64) (u : Unit) => r = 0) (fun (u : Unit) => []) := by
  refine Met.ofW (cc := cX0_lowest) (maxL := 12) (ret := (some .long)) (by decide) rfl ?_
  intro p e s m args below meth c s₁ B hml hv
  obtain ⟨rfl, hsz, hP, hK, hD0, hN⟩ := hv
  have hx := B.exec
  have hb := B.bytes
  have hr := B.returns
  have hlocks := B.notSynchronized
  have hts := atoms_spec (ws := wsX0_lowest) B.pre
  have hown : s.vm.findClass RX0 = some m.cls := findClass_of_methodNamed B.named
  subst hsz
  have hD := hD0.self (sz := s.heap.size)
  generalize hAe : va_A [] s.heap.size = A at hD ⊢
  have hA : ∀ q : Nat, s.heap.size ≤ q → A q := fun q h => by rw [← hAe]; exact Or.inr h
  have hS : va_S A s.heap s.heap [] := va_S.rf
  have hl := lv_entry ([.long 0, .long 1, .int 0]) (n := 12) (Nat.le_of_ble_eq_true rfl)
  rw [lg_entry_eq]
  generalize (lg_sl ([.long 0, .long 1, .int 0]) ++ List.replicate (12 - (lg_sl ([.long 0, .long 1, .int 0])).length) Slot.unset).toArray = ls at hl ⊢
  have hl : lv_has ls 12 [(0, .long 0), (2, .long 1), (4, .int 0)] := hl
  have hP : va_P D vwCl [] s.heap := hP
  refine lv_lload_n hx hb dX0_lowest_0 rfl (lv_at hl 1 rfl) ?_
  refine lv_lstore (lv' := [(5, .long 1), (0, .long 0), (2, .long 1), (4, .int 0)]) hx hb dX0_lowest_1 hl (by decide) rfl (fun ls hl => ?_)
  refine lv_lload_n hx hb dX0_lowest_3 rfl (lv_at hl 1 rfl) ?_
  refine lv_lstore (lv' := [(7, .long 0), (5, .long 1), (0, .long 0), (2, .long 1), (4, .int 0)]) hx hb dX0_lowest_4 hl (by decide) rfl (fun ls hl => ?_)
  refine lv_iconst (v := 0) hx hb dX0_lowest_6 (by decide) ?_
  refine lv_istore (lv' := [(9, .int 0), (7, .long 0), (5, .long 1), (0, .long 0), (2, .long 1), (4, .int 0)]) hx hb dX0_lowest_7 hl (by decide) rfl (fun ls hl => ?_)
  refine lv_iload hx hb dX0_lowest_9 (lv_at hl 0 rfl) ?_
  refine lv_bipush (v := 100) hx hb dX0_lowest_11 (by decide) ?_
  refine lv_icmp_ge (tgt := 44) hx hb dX0_lowest_13 (by decide) (fun c_1 => absurd c_1 (by decide)) (fun c_1 => ?_)
  refine lv_lload hx hb dX0_lowest_16 (lv_at hl 1 rfl) ?_
  refine lv_lconst (v := 0) hx hb dX0_lowest_18 (by decide) ?_
  refine W.lcmp hx hb dX0_lowest_19 ?_
  refine hs_topi 0 (by first | rfl | decide +kernel) ?_
  refine lv_if_eq (tgt := 44) hx hb dX0_lowest_20 (by decide) (fun c_2 => ?_) (fun c_2 => absurd c_2 (by decide))
  refine lv_lload hx hb dX0_lowest_44 (lv_at hl 2 rfl) ?_
  refine lv_lconst (v := 0) hx hb dX0_lowest_46 (by decide) ?_
  refine W.lcmp hx hb dX0_lowest_47 ?_
  refine hs_topi 1 (by first | rfl | decide +kernel) ?_
  refine lv_if_ne (tgt := 55) hx hb dX0_lowest_48 (by decide) (fun c_3 => ?_) (fun c_3 => absurd c_3 (by decide))
  refine lv_iload hx hb dX0_lowest_55 (lv_at hl 5 rfl) ?_
  refine lv_if_ne (tgt := 67) hx hb dX0_lowest_57 (by decide) (fun c_4 => absurd c_4 (by decide)) (fun c_4 => ?_)
  refine lv_lload_n hx hb dX0_lowest_60 rfl (lv_at hl 3 rfl) ?_
  refine lv_lload hx hb dX0_lowest_61 (lv_at hl 2 rfl) ?_
  refine lv_ldiv hx hb dX0_lowest_63 (by decide) ?_
  refine hs_topl 0 (by first | rfl | decide +kernel) ?_
  refine lv_goto (tgt := 71) hx hb dX0_lowest_64 (by decide) ?_
  exact hs_lret hx hb hr hlocks hK hP hD hS () [] rfl (by decide) dX0_lowest_71 (rfl)

set_option maxHeartbeats 4000000 in
set_option maxRecDepth 100000 in
theorem c_lowest_1_1 (l : Launch) (D : va_G) (k : Nat → ClassId) (sz : Nat)   : ML l yX0_lowest wsX0_lowest ({ frames := 0, cells := 0, slots := 0, locals := 0 }) D k [.long 0, .long 1, .int 1] [] sz (fun (r : Int64) (u : Unit) => r = 1) (fun (u : Unit) => []) := by
  refine Met.ofW (cc := cX0_lowest) (maxL := 12) (ret := (some .long)) (by decide) rfl ?_
  intro p e s m args below meth c s₁ B hml hv
  obtain ⟨rfl, hsz, hP, hK, hD0, hN⟩ := hv
  have hx := B.exec
  have hb := B.bytes
  have hr := B.returns
  have hlocks := B.notSynchronized
  have hts := atoms_spec (ws := wsX0_lowest) B.pre
  have hown : s.vm.findClass RX0 = some m.cls := findClass_of_methodNamed B.named
  subst hsz
  have hD := hD0.self (sz := s.heap.size)
  generalize hAe : va_A [] s.heap.size = A at hD ⊢
  have hA : ∀ q : Nat, s.heap.size ≤ q → A q := fun q h => by rw [← hAe]; exact Or.inr h
  have hS : va_S A s.heap s.heap [] := va_S.rf
  have hl := lv_entry ([.long 0, .long 1, .int 1]) (n := 12) (Nat.le_of_ble_eq_true rfl)
  rw [lg_entry_eq]
  generalize (lg_sl ([.long 0, .long 1, .int 1]) ++ List.replicate (12 - (lg_sl ([.long 0, .long 1, .int 1])).length) Slot.unset).toArray = ls at hl ⊢
  have hl : lv_has ls 12 [(0, .long 0), (2, .long 1), (4, .int 1)] := hl
  have hP : va_P D vwCl [] s.heap := hP
  refine lv_lload_n hx hb dX0_lowest_0 rfl (lv_at hl 1 rfl) ?_
  refine lv_lstore (lv' := [(5, .long 1), (0, .long 0), (2, .long 1), (4, .int 1)]) hx hb dX0_lowest_1 hl (by decide) rfl (fun ls hl => ?_)
  refine lv_lload_n hx hb dX0_lowest_3 rfl (lv_at hl 1 rfl) ?_
  refine lv_lstore (lv' := [(7, .long 0), (5, .long 1), (0, .long 0), (2, .long 1), (4, .int 1)]) hx hb dX0_lowest_4 hl (by decide) rfl (fun ls hl => ?_)
  refine lv_iconst (v := 0) hx hb dX0_lowest_6 (by decide) ?_
  refine lv_istore (lv' := [(9, .int 0), (7, .long 0), (5, .long 1), (0, .long 0), (2, .long 1), (4, .int 1)]) hx hb dX0_lowest_7 hl (by decide) rfl (fun ls hl => ?_)
  refine lv_iload hx hb dX0_lowest_9 (lv_at hl 0 rfl) ?_
  refine lv_bipush (v := 100) hx hb dX0_lowest_11 (by decide) ?_
  refine lv_icmp_ge (tgt := 44) hx hb dX0_lowest_13 (by decide) (fun c_1 => absurd c_1 (by decide)) (fun c_1 => ?_)
  refine lv_lload hx hb dX0_lowest_16 (lv_at hl 1 rfl) ?_
  refine lv_lconst (v := 0) hx hb dX0_lowest_18 (by decide) ?_
  refine W.lcmp hx hb dX0_lowest_19 ?_
  refine hs_topi 0 (by first | rfl | decide +kernel) ?_
  refine lv_if_eq (tgt := 44) hx hb dX0_lowest_20 (by decide) (fun c_2 => ?_) (fun c_2 => absurd c_2 (by decide))
  refine lv_lload hx hb dX0_lowest_44 (lv_at hl 2 rfl) ?_
  refine lv_lconst (v := 0) hx hb dX0_lowest_46 (by decide) ?_
  refine W.lcmp hx hb dX0_lowest_47 ?_
  refine hs_topi 1 (by first | rfl | decide +kernel) ?_
  refine lv_if_ne (tgt := 55) hx hb dX0_lowest_48 (by decide) (fun c_3 => ?_) (fun c_3 => absurd c_3 (by decide))
  refine lv_iload hx hb dX0_lowest_55 (lv_at hl 5 rfl) ?_
  refine lv_if_ne (tgt := 67) hx hb dX0_lowest_57 (by decide) (fun c_4 => ?_) (fun c_4 => absurd c_4 (by decide))
  refine lv_lload_n hx hb dX0_lowest_67 rfl (lv_at hl 4 rfl) ?_
  refine lv_lload hx hb dX0_lowest_68 (lv_at hl 2 rfl) ?_
  refine lv_ldiv hx hb dX0_lowest_70 (by decide) ?_
  refine hs_topl 1 (by first | rfl | decide +kernel) ?_
  exact hs_lret hx hb hr hlocks hK hP hD hS () [] rfl (by decide) dX0_lowest_71 (rfl)

set_option maxHeartbeats 4000000 in
set_option maxRecDepth 100000 in
theorem c_lowest_10_0 (l : Launch) (D : va_G) (k : Nat → ClassId) (sz : Nat)   : ML l yX0_lowest wsX0_lowest ({ frames := 0, cells := 0, slots := 0, locals := 0 }) D k [.long 0, .long 10, .int 0] [] sz (fun (r : Int64) (u : Unit) => r = 0) (fun (u : Unit) => []) := by
  refine Met.ofW (cc := cX0_lowest) (maxL := 12) (ret := (some .long)) (by decide) rfl ?_
  intro p e s m args below meth c s₁ B hml hv
  obtain ⟨rfl, hsz, hP, hK, hD0, hN⟩ := hv
  have hx := B.exec
  have hb := B.bytes
  have hr := B.returns
  have hlocks := B.notSynchronized
  have hts := atoms_spec (ws := wsX0_lowest) B.pre
  have hown : s.vm.findClass RX0 = some m.cls := findClass_of_methodNamed B.named
  subst hsz
  have hD := hD0.self (sz := s.heap.size)
  generalize hAe : va_A [] s.heap.size = A at hD ⊢
  have hA : ∀ q : Nat, s.heap.size ≤ q → A q := fun q h => by rw [← hAe]; exact Or.inr h
  have hS : va_S A s.heap s.heap [] := va_S.rf
  have hl := lv_entry ([.long 0, .long 10, .int 0]) (n := 12) (Nat.le_of_ble_eq_true rfl)
  rw [lg_entry_eq]
  generalize (lg_sl ([.long 0, .long 10, .int 0]) ++ List.replicate (12 - (lg_sl ([.long 0, .long 10, .int 0])).length) Slot.unset).toArray = ls at hl ⊢
  have hl : lv_has ls 12 [(0, .long 0), (2, .long 10), (4, .int 0)] := hl
  have hP : va_P D vwCl [] s.heap := hP
  refine lv_lload_n hx hb dX0_lowest_0 rfl (lv_at hl 1 rfl) ?_
  refine lv_lstore (lv' := [(5, .long 10), (0, .long 0), (2, .long 10), (4, .int 0)]) hx hb dX0_lowest_1 hl (by decide) rfl (fun ls hl => ?_)
  refine lv_lload_n hx hb dX0_lowest_3 rfl (lv_at hl 1 rfl) ?_
  refine lv_lstore (lv' := [(7, .long 0), (5, .long 10), (0, .long 0), (2, .long 10), (4, .int 0)]) hx hb dX0_lowest_4 hl (by decide) rfl (fun ls hl => ?_)
  refine lv_iconst (v := 0) hx hb dX0_lowest_6 (by decide) ?_
  refine lv_istore (lv' := [(9, .int 0), (7, .long 0), (5, .long 10), (0, .long 0), (2, .long 10), (4, .int 0)]) hx hb dX0_lowest_7 hl (by decide) rfl (fun ls hl => ?_)
  refine lv_iload hx hb dX0_lowest_9 (lv_at hl 0 rfl) ?_
  refine lv_bipush (v := 100) hx hb dX0_lowest_11 (by decide) ?_
  refine lv_icmp_ge (tgt := 44) hx hb dX0_lowest_13 (by decide) (fun c_1 => absurd c_1 (by decide)) (fun c_1 => ?_)
  refine lv_lload hx hb dX0_lowest_16 (lv_at hl 1 rfl) ?_
  refine lv_lconst (v := 0) hx hb dX0_lowest_18 (by decide) ?_
  refine W.lcmp hx hb dX0_lowest_19 ?_
  refine hs_topi 0 (by first | rfl | decide +kernel) ?_
  refine lv_if_eq (tgt := 44) hx hb dX0_lowest_20 (by decide) (fun c_2 => ?_) (fun c_2 => absurd c_2 (by decide))
  refine lv_lload hx hb dX0_lowest_44 (lv_at hl 2 rfl) ?_
  refine lv_lconst (v := 0) hx hb dX0_lowest_46 (by decide) ?_
  refine W.lcmp hx hb dX0_lowest_47 ?_
  refine hs_topi 1 (by first | rfl | decide +kernel) ?_
  refine lv_if_ne (tgt := 55) hx hb dX0_lowest_48 (by decide) (fun c_3 => ?_) (fun c_3 => absurd c_3 (by decide))
  refine lv_iload hx hb dX0_lowest_55 (lv_at hl 5 rfl) ?_
  refine lv_if_ne (tgt := 67) hx hb dX0_lowest_57 (by decide) (fun c_4 => absurd c_4 (by decide)) (fun c_4 => ?_)
  refine lv_lload_n hx hb dX0_lowest_60 rfl (lv_at hl 3 rfl) ?_
  refine lv_lload hx hb dX0_lowest_61 (lv_at hl 2 rfl) ?_
  refine lv_ldiv hx hb dX0_lowest_63 (by decide) ?_
  refine hs_topl 0 (by first | rfl | decide +kernel) ?_
  refine lv_goto (tgt := 71) hx hb dX0_lowest_64 (by decide) ?_
  exact hs_lret hx hb hr hlocks hK hP hD hS () [] rfl (by decide) dX0_lowest_71 (rfl)

set_option maxHeartbeats 4000000 in
set_option maxRecDepth 100000 in
theorem c_lowest_10_1 (l : Launch) (D : va_G) (k : Nat → ClassId) (sz : Nat)   : ML l yX0_lowest wsX0_lowest ({ frames := 0, cells := 0, slots := 0, locals := 0 }) D k [.long 0, .long 10, .int 1] [] sz (fun (r : Int64) (u : Unit) => r = 1) (fun (u : Unit) => []) := by
  refine Met.ofW (cc := cX0_lowest) (maxL := 12) (ret := (some .long)) (by decide) rfl ?_
  intro p e s m args below meth c s₁ B hml hv
  obtain ⟨rfl, hsz, hP, hK, hD0, hN⟩ := hv
  have hx := B.exec
  have hb := B.bytes
  have hr := B.returns
  have hlocks := B.notSynchronized
  have hts := atoms_spec (ws := wsX0_lowest) B.pre
  have hown : s.vm.findClass RX0 = some m.cls := findClass_of_methodNamed B.named
  subst hsz
  have hD := hD0.self (sz := s.heap.size)
  generalize hAe : va_A [] s.heap.size = A at hD ⊢
  have hA : ∀ q : Nat, s.heap.size ≤ q → A q := fun q h => by rw [← hAe]; exact Or.inr h
  have hS : va_S A s.heap s.heap [] := va_S.rf
  have hl := lv_entry ([.long 0, .long 10, .int 1]) (n := 12) (Nat.le_of_ble_eq_true rfl)
  rw [lg_entry_eq]
  generalize (lg_sl ([.long 0, .long 10, .int 1]) ++ List.replicate (12 - (lg_sl ([.long 0, .long 10, .int 1])).length) Slot.unset).toArray = ls at hl ⊢
  have hl : lv_has ls 12 [(0, .long 0), (2, .long 10), (4, .int 1)] := hl
  have hP : va_P D vwCl [] s.heap := hP
  refine lv_lload_n hx hb dX0_lowest_0 rfl (lv_at hl 1 rfl) ?_
  refine lv_lstore (lv' := [(5, .long 10), (0, .long 0), (2, .long 10), (4, .int 1)]) hx hb dX0_lowest_1 hl (by decide) rfl (fun ls hl => ?_)
  refine lv_lload_n hx hb dX0_lowest_3 rfl (lv_at hl 1 rfl) ?_
  refine lv_lstore (lv' := [(7, .long 0), (5, .long 10), (0, .long 0), (2, .long 10), (4, .int 1)]) hx hb dX0_lowest_4 hl (by decide) rfl (fun ls hl => ?_)
  refine lv_iconst (v := 0) hx hb dX0_lowest_6 (by decide) ?_
  refine lv_istore (lv' := [(9, .int 0), (7, .long 0), (5, .long 10), (0, .long 0), (2, .long 10), (4, .int 1)]) hx hb dX0_lowest_7 hl (by decide) rfl (fun ls hl => ?_)
  refine lv_iload hx hb dX0_lowest_9 (lv_at hl 0 rfl) ?_
  refine lv_bipush (v := 100) hx hb dX0_lowest_11 (by decide) ?_
  refine lv_icmp_ge (tgt := 44) hx hb dX0_lowest_13 (by decide) (fun c_1 => absurd c_1 (by decide)) (fun c_1 => ?_)
  refine lv_lload hx hb dX0_lowest_16 (lv_at hl 1 rfl) ?_
  refine lv_lconst (v := 0) hx hb dX0_lowest_18 (by decide) ?_
  refine W.lcmp hx hb dX0_lowest_19 ?_
  refine hs_topi 0 (by first | rfl | decide +kernel) ?_
  refine lv_if_eq (tgt := 44) hx hb dX0_lowest_20 (by decide) (fun c_2 => ?_) (fun c_2 => absurd c_2 (by decide))
  refine lv_lload hx hb dX0_lowest_44 (lv_at hl 2 rfl) ?_
  refine lv_lconst (v := 0) hx hb dX0_lowest_46 (by decide) ?_
  refine W.lcmp hx hb dX0_lowest_47 ?_
  refine hs_topi 1 (by first | rfl | decide +kernel) ?_
  refine lv_if_ne (tgt := 55) hx hb dX0_lowest_48 (by decide) (fun c_3 => ?_) (fun c_3 => absurd c_3 (by decide))
  refine lv_iload hx hb dX0_lowest_55 (lv_at hl 5 rfl) ?_
  refine lv_if_ne (tgt := 67) hx hb dX0_lowest_57 (by decide) (fun c_4 => ?_) (fun c_4 => absurd c_4 (by decide))
  refine lv_lload_n hx hb dX0_lowest_67 rfl (lv_at hl 4 rfl) ?_
  refine lv_lload hx hb dX0_lowest_68 (lv_at hl 2 rfl) ?_
  refine lv_ldiv hx hb dX0_lowest_70 (by decide) ?_
  refine hs_topl 1 (by first | rfl | decide +kernel) ?_
  exact hs_lret hx hb hr hlocks hK hP hD hS () [] rfl (by decide) dX0_lowest_71 (rfl)

set_option maxHeartbeats 4000000 in
set_option maxRecDepth 100000 in
theorem c_majority_0 (l : Launch) (D : va_G) (k : Nat → ClassId) (sz : Nat) (q : Nat) (q_tell : Nat) (v : Int32) (tf : Nat → Int64)  : ML l yX0_majority wsX0_majority ({ frames := 1, cells := 0, slots := 0, locals := 31 }) D k [.ref q, .int v, .int 0, .int 0, .int 0] [(q, .inr (0, [.ref q_tell])), (q_tell, .inl (k 1, 5, .inr (.inl (tf))))] sz (fun (r : Int64) (u : Unit) => r = 0) (fun (u : Unit) => []) := by
  refine Met.ofW (cc := cX0_majority) (maxL := 10) (ret := (some .long)) (by decide) rfl ?_
  intro p e s m args below meth c s₁ B hml hv
  obtain ⟨rfl, hsz, hP, hK, hD0, hN⟩ := hv
  have hx := B.exec
  have hb := B.bytes
  have hr := B.returns
  have hlocks := B.notSynchronized
  have hts := atoms_spec (ws := wsX0_majority) B.pre
  have hown : s.vm.findClass RX0 = some m.cls := findClass_of_methodNamed B.named
  have hiX0 : ∀ w ∈ u_ws RX0 TX0 1, w ∈ wsX0_majority := by decide +kernel
  have fl9 := hts (.fieldLink RX0 9 "HalfScales$Court" "tell" "[J") (by decide +kernel)
  subst hsz
  have hD := hD0.self (sz := s.heap.size)
  generalize hAe : va_A [(q, .inr (0, [.ref q_tell])), (q_tell, .inl (k 1, 5, .inr (.inl (tf))))] s.heap.size = A at hD ⊢
  have hA : ∀ q : Nat, s.heap.size ≤ q → A q := fun q h => by rw [← hAe]; exact Or.inr h
  have hS : va_S A s.heap s.heap [] := va_S.rf
  have hl := lv_entry ([.ref q, .int v, .int 0, .int 0, .int 0]) (n := 10) (Nat.le_of_ble_eq_true rfl)
  rw [lg_entry_eq]
  generalize (lg_sl ([.ref q, .int v, .int 0, .int 0, .int 0]) ++ List.replicate (10 - (lg_sl ([.ref q, .int v, .int 0, .int 0, .int 0])).length) Slot.unset).toArray = ls at hl ⊢
  have hl : lv_has ls 10 [(0, .ref q), (1, .int v), (2, .int 0), (3, .int 0), (4, .int 0)] := hl
  have hP : va_P D vwCl [(q, .inr (0, [.ref q_tell])), (q_tell, .inl (k 1, 5, .inr (.inl (tf))))] s.heap := hP
  refine lv_lconst (v := 1) hx hb dX0_majority_0 (by decide) ?_
  refine lv_lstore (lv' := [(5, .long 1), (0, .ref q), (1, .int v), (2, .int 0), (3, .int 0), (4, .int 0)]) hx hb dX0_majority_1 hl (by decide) rfl (fun ls hl => ?_)
  refine lv_aload_n hx hb dX0_majority_3 rfl (lv_at hl 1 rfl) ?_
  refine va_get (D := D) (ci := 0) (v := .ref q_tell) (C := RX0) (T := TX0) (N := 1) hx hb hts hiX0 hown hK hP 0 rfl rfl 0 (by decide) fl9 (fun _ h9 => h9) rfl dX0_majority_4 ?_
  refine lv_iconst (v := 0) hx hb dX0_majority_7 (by decide) ?_
  refine lv_lconst (v := 1) hx hb dX0_majority_8 (by decide) ?_
  refine va_last hx hb hK hP hD hS 1 1 rfl rfl (hs_in (by decide)) dX0_majority_9 (fun H locs hP hD hS => ?_)
  have hP : va_P D vwCl [(q, .inr (0, [.ref q_tell])), (q_tell, .inl (k 1, 5, .inr (.inl (vp_updL tf 0 1))))] H := hP
  have hD : va_D A [(q, .inr (0, [.ref q_tell])), (q_tell, .inl (k 1, 5, .inr (.inl (vp_updL tf 0 1))))] := hD
  refine lv_iconst (v := 0) hx hb dX0_majority_10 (by decide) ?_
  refine lv_istore (lv' := [(7, .int 0), (5, .long 1), (0, .ref q), (1, .int v), (2, .int 0), (3, .int 0), (4, .int 0)]) hx hb dX0_majority_11 hl (by decide) rfl (fun ls hl => ?_)
  refine lv_iload hx hb dX0_majority_13 (lv_at hl 0 rfl) ?_
  refine lv_iload_n hx hb dX0_majority_15 rfl (lv_at hl 5 rfl) ?_
  refine lv_icmp_ge (tgt := 119) hx hb dX0_majority_16 (by decide) (fun c_1 => ?_) (fun c_1 => absurd c_1 (by decide))
  refine lv_lconst (v := 0) hx hb dX0_majority_119 (by decide) ?_
  refine lv_lstore (lv' := [(7, .long 0), (5, .long 1), (0, .ref q), (1, .int v), (2, .int 0), (3, .int 0), (4, .int 0)]) hx hb dX0_majority_120 hl (by decide) rfl (fun ls hl => ?_)
  refine lv_iload_n hx hb dX0_majority_122 rfl (lv_at hl 5 rfl) ?_
  refine lv_iconst (v := 2) hx hb dX0_majority_123 (by decide) ?_
  refine lv_idiv hx hb dX0_majority_124 (by decide) ?_
  refine hs_topi 0 (by first | rfl | decide +kernel) ?_
  refine lv_iconst (v := 1) hx hb dX0_majority_125 (by decide) ?_
  refine lv_iadd hx hb dX0_majority_126 ?_
  refine hs_topi 1 (by first | rfl | decide +kernel) ?_
  refine lv_istore (lv' := [(9, .int 1), (7, .long 0), (5, .long 1), (0, .ref q), (1, .int v), (2, .int 0), (3, .int 0), (4, .int 0)]) hx hb dX0_majority_127 hl (by decide) rfl (fun ls hl => ?_)
  refine lv_iload hx hb dX0_majority_129 (lv_at hl 0 rfl) ?_
  refine lv_iload_n hx hb dX0_majority_131 rfl (lv_at hl 6 rfl) ?_
  refine lv_icmp_gt (tgt := 153) hx hb dX0_majority_132 (by decide) (fun c_2 => ?_) (fun c_2 => absurd c_2 (by decide))
  refine lv_lload hx hb dX0_majority_153 (lv_at hl 1 rfl) ?_
  refine lv_lload hx hb dX0_majority_155 (lv_at hl 2 rfl) ?_
  refine lv_iload hx hb dX0_majority_157 (lv_at hl 7 rfl) ?_
  refine hs_pl (va_runS (As := [.long 0, .long 1, .int 0]) (rest := []) ⟨hx, hb, hml, hown, hts⟩ (c_lowest_1_0 l D k _ ) (va_cwS 3 hts gX0_majority_X0_lowest rfl rfl rfl (by decide +kernel) ⟨Nat.le_of_ble_eq_true rfl, Nat.le_of_ble_eq_true rfl⟩) (hs_preS hK hN (hs_subP (w := []) hP [] rfl) (hD.sub (ws' := []) [] (by decide) rfl)) rfl rfl hl.1 rfl (lv_room (Nat.le_of_ble_eq_true rfl)) dX0_majority_159 ⟨Nat.le_of_ble_eq_true rfl, Nat.le_of_ble_eq_true rfl⟩) hP hD hS hA (fun r_3 u_5 H locs hw_4 hP hS => ?_)
  refine hs_topl 0 (hw_4.trans (by first | rfl | decide +kernel | rfl)) ?_
  exact hs_lret hx hb hr hlocks hK hP hD hS () [] rfl (by decide) dX0_majority_162 (rfl)

set_option maxHeartbeats 4000000 in
set_option maxRecDepth 100000 in
theorem c_expected_0 (l : Launch) (D : va_G) (k : Nat → ClassId) (sz : Nat) (v : Int32)  : ML l yX0_expected wsX0_expected ({ frames := 1, cells := 0, slots := 0, locals := 31 }) D k [.int v, .int 0, .int 0, .int 0] [] sz (fun (r : Int64) (u : Unit) => r = 0) (fun (u : Unit) => []) := by
  refine Met.ofW (cc := cX0_expected) (maxL := 7) (ret := (some .long)) (by decide) rfl ?_
  intro p e s m args below meth c s₁ B hml hv
  obtain ⟨rfl, hsz, hP, hK, hD0, hN⟩ := hv
  have hx := B.exec
  have hb := B.bytes
  have hr := B.returns
  have hlocks := B.notSynchronized
  have hts := atoms_spec (ws := wsX0_expected) B.pre
  have hown : s.vm.findClass RX0 = some m.cls := findClass_of_methodNamed B.named
  have kl19 := hts (.constantLong RX0 19 (10)) (by decide +kernel)
  subst hsz
  have hD := hD0.self (sz := s.heap.size)
  generalize hAe : va_A [] s.heap.size = A at hD ⊢
  have hA : ∀ q : Nat, s.heap.size ≤ q → A q := fun q h => by rw [← hAe]; exact Or.inr h
  have hS : va_S A s.heap s.heap [] := va_S.rf
  have hl := lv_entry ([.int v, .int 0, .int 0, .int 0]) (n := 7) (Nat.le_of_ble_eq_true rfl)
  rw [lg_entry_eq]
  generalize (lg_sl ([.int v, .int 0, .int 0, .int 0]) ++ List.replicate (7 - (lg_sl ([.int v, .int 0, .int 0, .int 0])).length) Slot.unset).toArray = ls at hl ⊢
  have hl : lv_has ls 7 [(0, .int v), (1, .int 0), (2, .int 0), (3, .int 0)] := hl
  have hP : va_P D vwCl [] s.heap := hP
  refine lv_lconst (v := 0) hx hb dX0_expected_0 (by decide) ?_
  refine lv_lstore (lv' := [(4, .long 0), (0, .int v), (1, .int 0), (2, .int 0), (3, .int 0)]) hx hb dX0_expected_1 hl (by decide) rfl (fun ls hl => ?_)
  refine lv_iconst (v := 0) hx hb dX0_expected_3 (by decide) ?_
  refine lv_istore (lv' := [(6, .int 0), (4, .long 0), (0, .int v), (1, .int 0), (2, .int 0), (3, .int 0)]) hx hb dX0_expected_4 hl (by decide) rfl (fun ls hl => ?_)
  refine lv_iload hx hb dX0_expected_6 (lv_at hl 0 rfl) ?_
  refine lv_iload_n hx hb dX0_expected_8 rfl (lv_at hl 4 rfl) ?_
  refine lv_icmp_ge (tgt := 31) hx hb dX0_expected_9 (by decide) (fun c_1 => ?_) (fun c_1 => absurd c_1 (by decide))
  refine lv_lload hx hb dX0_expected_31 (lv_at hl 1 rfl) ?_
  refine lv_ldc2 hx hb hown kl19 dX0_expected_33 ?_
  refine lv_iload_n hx hb dX0_expected_36 rfl (lv_at hl 5 rfl) ?_
  refine hs_pl (va_runS (As := [.long 0, .long 10, .int 0]) (rest := []) ⟨hx, hb, hml, hown, hts⟩ (c_lowest_10_0 l D k _ ) (va_cwS 3 hts gX0_expected_X0_lowest rfl rfl rfl (by decide +kernel) ⟨Nat.le_of_ble_eq_true rfl, Nat.le_of_ble_eq_true rfl⟩) (hs_preS hK hN (hs_subP (w := []) hP [] rfl) (hD.sub (ws' := []) [] (by decide) rfl)) rfl rfl hl.1 rfl (lv_room (Nat.le_of_ble_eq_true rfl)) dX0_expected_37 ⟨Nat.le_of_ble_eq_true rfl, Nat.le_of_ble_eq_true rfl⟩) hP hD hS hA (fun r_2 u_4 H locs hw_3 hP hS => ?_)
  refine hs_topl 0 (hw_3.trans (by first | rfl | decide +kernel | rfl)) ?_
  exact hs_lret hx hb hr hlocks hK hP hD hS () [] rfl (by decide) dX0_expected_40 (rfl)

set_option maxHeartbeats 4000000 in
set_option maxRecDepth 100000 in
theorem c_majority_1 (l : Launch) (D : va_G) (k : Nat → ClassId) (sz : Nat) (q : Nat) (q_tell : Nat) (v : Int32) (tf : Nat → Int64)  : ML l yX0_majority wsX0_majority ({ frames := 1, cells := 0, slots := 0, locals := 31 }) D k [.ref q, .int v, .int 0, .int 0, .int 1] [(q, .inr (0, [.ref q_tell])), (q_tell, .inl (k 1, 5, .inr (.inl (tf))))] sz (fun (r : Int64) (u : Unit) => r = 1) (fun (u : Unit) => []) := by
  refine Met.ofW (cc := cX0_majority) (maxL := 10) (ret := (some .long)) (by decide) rfl ?_
  intro p e s m args below meth c s₁ B hml hv
  obtain ⟨rfl, hsz, hP, hK, hD0, hN⟩ := hv
  have hx := B.exec
  have hb := B.bytes
  have hr := B.returns
  have hlocks := B.notSynchronized
  have hts := atoms_spec (ws := wsX0_majority) B.pre
  have hown : s.vm.findClass RX0 = some m.cls := findClass_of_methodNamed B.named
  have hiX0 : ∀ w ∈ u_ws RX0 TX0 1, w ∈ wsX0_majority := by decide +kernel
  have fl9 := hts (.fieldLink RX0 9 "HalfScales$Court" "tell" "[J") (by decide +kernel)
  subst hsz
  have hD := hD0.self (sz := s.heap.size)
  generalize hAe : va_A [(q, .inr (0, [.ref q_tell])), (q_tell, .inl (k 1, 5, .inr (.inl (tf))))] s.heap.size = A at hD ⊢
  have hA : ∀ q : Nat, s.heap.size ≤ q → A q := fun q h => by rw [← hAe]; exact Or.inr h
  have hS : va_S A s.heap s.heap [] := va_S.rf
  have hl := lv_entry ([.ref q, .int v, .int 0, .int 0, .int 1]) (n := 10) (Nat.le_of_ble_eq_true rfl)
  rw [lg_entry_eq]
  generalize (lg_sl ([.ref q, .int v, .int 0, .int 0, .int 1]) ++ List.replicate (10 - (lg_sl ([.ref q, .int v, .int 0, .int 0, .int 1])).length) Slot.unset).toArray = ls at hl ⊢
  have hl : lv_has ls 10 [(0, .ref q), (1, .int v), (2, .int 0), (3, .int 0), (4, .int 1)] := hl
  have hP : va_P D vwCl [(q, .inr (0, [.ref q_tell])), (q_tell, .inl (k 1, 5, .inr (.inl (tf))))] s.heap := hP
  refine lv_lconst (v := 1) hx hb dX0_majority_0 (by decide) ?_
  refine lv_lstore (lv' := [(5, .long 1), (0, .ref q), (1, .int v), (2, .int 0), (3, .int 0), (4, .int 1)]) hx hb dX0_majority_1 hl (by decide) rfl (fun ls hl => ?_)
  refine lv_aload_n hx hb dX0_majority_3 rfl (lv_at hl 1 rfl) ?_
  refine va_get (D := D) (ci := 0) (v := .ref q_tell) (C := RX0) (T := TX0) (N := 1) hx hb hts hiX0 hown hK hP 0 rfl rfl 0 (by decide) fl9 (fun _ h9 => h9) rfl dX0_majority_4 ?_
  refine lv_iconst (v := 0) hx hb dX0_majority_7 (by decide) ?_
  refine lv_lconst (v := 1) hx hb dX0_majority_8 (by decide) ?_
  refine va_last hx hb hK hP hD hS 1 1 rfl rfl (hs_in (by decide)) dX0_majority_9 (fun H locs hP hD hS => ?_)
  have hP : va_P D vwCl [(q, .inr (0, [.ref q_tell])), (q_tell, .inl (k 1, 5, .inr (.inl (vp_updL tf 0 1))))] H := hP
  have hD : va_D A [(q, .inr (0, [.ref q_tell])), (q_tell, .inl (k 1, 5, .inr (.inl (vp_updL tf 0 1))))] := hD
  refine lv_iconst (v := 0) hx hb dX0_majority_10 (by decide) ?_
  refine lv_istore (lv' := [(7, .int 0), (5, .long 1), (0, .ref q), (1, .int v), (2, .int 0), (3, .int 0), (4, .int 1)]) hx hb dX0_majority_11 hl (by decide) rfl (fun ls hl => ?_)
  refine lv_iload hx hb dX0_majority_13 (lv_at hl 0 rfl) ?_
  refine lv_iload_n hx hb dX0_majority_15 rfl (lv_at hl 5 rfl) ?_
  refine lv_icmp_ge (tgt := 119) hx hb dX0_majority_16 (by decide) (fun c_1 => ?_) (fun c_1 => absurd c_1 (by decide))
  refine lv_lconst (v := 0) hx hb dX0_majority_119 (by decide) ?_
  refine lv_lstore (lv' := [(7, .long 0), (5, .long 1), (0, .ref q), (1, .int v), (2, .int 0), (3, .int 0), (4, .int 1)]) hx hb dX0_majority_120 hl (by decide) rfl (fun ls hl => ?_)
  refine lv_iload_n hx hb dX0_majority_122 rfl (lv_at hl 5 rfl) ?_
  refine lv_iconst (v := 2) hx hb dX0_majority_123 (by decide) ?_
  refine lv_idiv hx hb dX0_majority_124 (by decide) ?_
  refine hs_topi 0 (by first | rfl | decide +kernel) ?_
  refine lv_iconst (v := 1) hx hb dX0_majority_125 (by decide) ?_
  refine lv_iadd hx hb dX0_majority_126 ?_
  refine hs_topi 1 (by first | rfl | decide +kernel) ?_
  refine lv_istore (lv' := [(9, .int 1), (7, .long 0), (5, .long 1), (0, .ref q), (1, .int v), (2, .int 0), (3, .int 0), (4, .int 1)]) hx hb dX0_majority_127 hl (by decide) rfl (fun ls hl => ?_)
  refine lv_iload hx hb dX0_majority_129 (lv_at hl 0 rfl) ?_
  refine lv_iload_n hx hb dX0_majority_131 rfl (lv_at hl 6 rfl) ?_
  refine lv_icmp_gt (tgt := 153) hx hb dX0_majority_132 (by decide) (fun c_2 => ?_) (fun c_2 => absurd c_2 (by decide))
  refine lv_lload hx hb dX0_majority_153 (lv_at hl 1 rfl) ?_
  refine lv_lload hx hb dX0_majority_155 (lv_at hl 2 rfl) ?_
  refine lv_iload hx hb dX0_majority_157 (lv_at hl 7 rfl) ?_
  refine hs_pl (va_runS (As := [.long 0, .long 1, .int 1]) (rest := []) ⟨hx, hb, hml, hown, hts⟩ (c_lowest_1_1 l D k _ ) (va_cwS 3 hts gX0_majority_X0_lowest rfl rfl rfl (by decide +kernel) ⟨Nat.le_of_ble_eq_true rfl, Nat.le_of_ble_eq_true rfl⟩) (hs_preS hK hN (hs_subP (w := []) hP [] rfl) (hD.sub (ws' := []) [] (by decide) rfl)) rfl rfl hl.1 rfl (lv_room (Nat.le_of_ble_eq_true rfl)) dX0_majority_159 ⟨Nat.le_of_ble_eq_true rfl, Nat.le_of_ble_eq_true rfl⟩) hP hD hS hA (fun r_3 u_5 H locs hw_4 hP hS => ?_)
  refine hs_topl 1 (hw_4.trans (by first | rfl | decide +kernel | rfl)) ?_
  exact hs_lret hx hb hr hlocks hK hP hD hS () [] rfl (by decide) dX0_majority_162 (rfl)

set_option maxHeartbeats 4000000 in
set_option maxRecDepth 100000 in
theorem c_expected_1 (l : Launch) (D : va_G) (k : Nat → ClassId) (sz : Nat) (v : Int32)  : ML l yX0_expected wsX0_expected ({ frames := 1, cells := 0, slots := 0, locals := 31 }) D k [.int v, .int 0, .int 0, .int 1] [] sz (fun (r : Int64) (u : Unit) => r = 1) (fun (u : Unit) => []) := by
  refine Met.ofW (cc := cX0_expected) (maxL := 7) (ret := (some .long)) (by decide) rfl ?_
  intro p e s m args below meth c s₁ B hml hv
  obtain ⟨rfl, hsz, hP, hK, hD0, hN⟩ := hv
  have hx := B.exec
  have hb := B.bytes
  have hr := B.returns
  have hlocks := B.notSynchronized
  have hts := atoms_spec (ws := wsX0_expected) B.pre
  have hown : s.vm.findClass RX0 = some m.cls := findClass_of_methodNamed B.named
  have kl19 := hts (.constantLong RX0 19 (10)) (by decide +kernel)
  subst hsz
  have hD := hD0.self (sz := s.heap.size)
  generalize hAe : va_A [] s.heap.size = A at hD ⊢
  have hA : ∀ q : Nat, s.heap.size ≤ q → A q := fun q h => by rw [← hAe]; exact Or.inr h
  have hS : va_S A s.heap s.heap [] := va_S.rf
  have hl := lv_entry ([.int v, .int 0, .int 0, .int 1]) (n := 7) (Nat.le_of_ble_eq_true rfl)
  rw [lg_entry_eq]
  generalize (lg_sl ([.int v, .int 0, .int 0, .int 1]) ++ List.replicate (7 - (lg_sl ([.int v, .int 0, .int 0, .int 1])).length) Slot.unset).toArray = ls at hl ⊢
  have hl : lv_has ls 7 [(0, .int v), (1, .int 0), (2, .int 0), (3, .int 1)] := hl
  have hP : va_P D vwCl [] s.heap := hP
  refine lv_lconst (v := 0) hx hb dX0_expected_0 (by decide) ?_
  refine lv_lstore (lv' := [(4, .long 0), (0, .int v), (1, .int 0), (2, .int 0), (3, .int 1)]) hx hb dX0_expected_1 hl (by decide) rfl (fun ls hl => ?_)
  refine lv_iconst (v := 0) hx hb dX0_expected_3 (by decide) ?_
  refine lv_istore (lv' := [(6, .int 0), (4, .long 0), (0, .int v), (1, .int 0), (2, .int 0), (3, .int 1)]) hx hb dX0_expected_4 hl (by decide) rfl (fun ls hl => ?_)
  refine lv_iload hx hb dX0_expected_6 (lv_at hl 0 rfl) ?_
  refine lv_iload_n hx hb dX0_expected_8 rfl (lv_at hl 4 rfl) ?_
  refine lv_icmp_ge (tgt := 31) hx hb dX0_expected_9 (by decide) (fun c_1 => ?_) (fun c_1 => absurd c_1 (by decide))
  refine lv_lload hx hb dX0_expected_31 (lv_at hl 1 rfl) ?_
  refine lv_ldc2 hx hb hown kl19 dX0_expected_33 ?_
  refine lv_iload_n hx hb dX0_expected_36 rfl (lv_at hl 5 rfl) ?_
  refine hs_pl (va_runS (As := [.long 0, .long 10, .int 1]) (rest := []) ⟨hx, hb, hml, hown, hts⟩ (c_lowest_10_1 l D k _ ) (va_cwS 3 hts gX0_expected_X0_lowest rfl rfl rfl (by decide +kernel) ⟨Nat.le_of_ble_eq_true rfl, Nat.le_of_ble_eq_true rfl⟩) (hs_preS hK hN (hs_subP (w := []) hP [] rfl) (hD.sub (ws' := []) [] (by decide) rfl)) rfl rfl hl.1 rfl (lv_room (Nat.le_of_ble_eq_true rfl)) dX0_expected_37 ⟨Nat.le_of_ble_eq_true rfl, Nat.le_of_ble_eq_true rfl⟩) hP hD hS hA (fun r_2 u_4 H locs hw_3 hP hS => ?_)
  refine hs_topl 1 (hw_3.trans (by first | rfl | decide +kernel | rfl)) ?_
  exact hs_lret hx hb hr hlocks hK hP hD hS () [] rfl (by decide) dX0_expected_40 (rfl)
