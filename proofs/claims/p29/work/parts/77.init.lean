set_option maxHeartbeats 4000000 in
set_option maxRecDepth 100000 in
theorem c_begin (l : Launch) (D : va_G) (k : Nat → ClassId) (sz : Nat) (t : Nat) (t_weights : Nat) (t_kindOf : Nat) (t_light : Nat) (t_heavy : Nat) (t_seenBy : Nat) (t_seenCut : Nat) (t_seenFound : Nat) (t_cellCount : Int32) (t_peopleCount : Int32) (t_slip : Int32) (t_fine : Int32) (t_appealCount : Int32) (t_halfCount : Int32) (t_pairCount : Int32) (t_seenCount : Int32) (w : Nat → Int32)  : MV l yX6_begin wsX6_begin ({ frames := 0, cells := 0, slots := 0, locals := 0 }) D k [.ref t] [oq5 t t_weights t_kindOf t_light t_heavy t_seenBy t_seenCut t_seenFound t_cellCount t_peopleCount t_slip t_fine t_appealCount t_halfCount t_pairCount t_seenCount, oqI k t_weights 8 (w)] sz (fun (u : Unit) => True) (fun (u : Unit) => [oq5 t t_weights t_kindOf t_light t_heavy t_seenBy t_seenCut t_seenFound 2 0 0 0 0 2 0 0, oqI k t_weights 8 (upd (upd w 0 1) 1 1)]) := by
  refine Met.ofW (cc := cX6_begin) (maxL := 1) (ret := none) hpn_X6 rfl ?_
  intro p e s m args below meth c s₁ B hml hv
  obtain ⟨rfl, hsz, hP, hK, hD0, hN⟩ := hv
  have hx := B.exec
  have hb := B.bytes
  have hr := B.returns
  have hlocks := B.notSynchronized
  have hts := atoms_spec (ws := wsX6_begin) B.pre
  have hown := findClass_of_methodNamed B.named
  have hown : s.vm.findClass RX6 = some m.cls := hown
  have hiX6 : ∀ w ∈ u_ws RX6 TX6 15, w ∈ wsX6_begin := fun w9 hw9 => List.mem_cons_of_mem _ (igX6 w9 hw9)
  have fl9 := hts (.fieldLink RX6 9 "HalfScales$Thing" "weights" "[I") (List.mem_cons_of_mem _ (hs_inG 1 35 rfl rfl))
  have fl36 := hts (.fieldLink RX6 36 "HalfScales$Thing" "cellCount" "I") (List.mem_cons_of_mem _ (hs_inG 1 51 rfl rfl))
  have fl40 := hts (.fieldLink RX6 40 "HalfScales$Thing" "peopleCount" "I") (List.mem_cons_of_mem _ (hs_inG 1 55 rfl rfl))
  have fl43 := hts (.fieldLink RX6 43 "HalfScales$Thing" "slip" "I") (List.mem_cons_of_mem _ (hs_inG 1 59 rfl rfl))
  have fl46 := hts (.fieldLink RX6 46 "HalfScales$Thing" "fine" "I") (List.mem_cons_of_mem _ (hs_inG 1 63 rfl rfl))
  have fl49 := hts (.fieldLink RX6 49 "HalfScales$Thing" "appealCount" "I") (List.mem_cons_of_mem _ (hs_inG 1 66 rfl rfl))
  have fl52 := hts (.fieldLink RX6 52 "HalfScales$Thing" "halfCount" "I") (List.mem_cons_of_mem _ (hs_inG 1 69 rfl rfl))
  have fl55 := hts (.fieldLink RX6 55 "HalfScales$Thing" "pairCount" "I") (List.mem_cons_of_mem _ (hs_inG 1 73 rfl rfl))
  have fl58 := hts (.fieldLink RX6 58 "HalfScales$Thing" "seenCount" "I") (List.mem_cons_of_mem _ (hs_inG 1 76 rfl rfl))
  subst hsz
  have hD := hD0.self (sz := s.heap.size)
  generalize hAe : va_A [oq5 t t_weights t_kindOf t_light t_heavy t_seenBy t_seenCut t_seenFound t_cellCount t_peopleCount t_slip t_fine t_appealCount t_halfCount t_pairCount t_seenCount, oqI k t_weights 8 (w)] s.heap.size = A at hD ⊢
  have hA : ∀ q : Nat, s.heap.size ≤ q → A q := fun q h => by rw [← hAe]; exact Or.inr h
  have hS : va_S A s.heap s.heap [] := va_S.rf
  have hl := lv_entry ([.ref t]) (n := 1) (Nat.le_of_ble_eq_true rfl)
  rw [lg_entry_eq]
  generalize (lg_sl ([.ref t]) ++ List.replicate (1 - (lg_sl ([.ref t])).length) Slot.unset).toArray = ls at hl ⊢
  have hl : lv_has ls 1 [(0, .ref t)] := hl
  have hP : va_P D vwCl [oq5 t t_weights t_kindOf t_light t_heavy t_seenBy t_seenCut t_seenFound t_cellCount t_peopleCount t_slip t_fine t_appealCount t_halfCount t_pairCount t_seenCount, oqI k t_weights 8 (w)] s.heap := hP
  refine lv_aload_n hx hb dX6_begin_0 rfl (lv_at hl 0 rfl) ?_
  refine va_get (D := D) (ci := 5) (v := .ref t_weights) (C := RX6) (T := TX6) (N := 15) hx hb hts hiX6 hown hK hP 0 rfl rfl 0 (Nat.le_of_ble_eq_true rfl) fl9 (fun _ h9 => h9) rfl dX6_begin_1 ?_
  refine lv_iconst (v := 0) hx hb dX6_begin_4 hki_0 ?_
  refine lv_iconst (v := 1) hx hb dX6_begin_5 hki_1 ?_
  refine va_iast hx hb hK hP hD hS 1 0 rfl rfl (hs_in (by decide)) dX6_begin_6 (fun H locs hP hD hS => ?_)
  have hP : va_P D vwCl [oq5 t t_weights t_kindOf t_light t_heavy t_seenBy t_seenCut t_seenFound t_cellCount t_peopleCount t_slip t_fine t_appealCount t_halfCount t_pairCount t_seenCount, oqI k t_weights 8 (upd w 0 1)] H := hP
  have hD : va_D A [oq5 t t_weights t_kindOf t_light t_heavy t_seenBy t_seenCut t_seenFound t_cellCount t_peopleCount t_slip t_fine t_appealCount t_halfCount t_pairCount t_seenCount, oqI k t_weights 8 (upd w 0 1)] := hD
  refine lv_aload_n hx hb dX6_begin_7 rfl (lv_at hl 0 rfl) ?_
  refine va_get (D := D) (ci := 5) (v := .ref t_weights) (C := RX6) (T := TX6) (N := 15) hx hb hts hiX6 hown hK hP 0 rfl rfl 0 (Nat.le_of_ble_eq_true rfl) fl9 (fun _ h9 => h9) rfl dX6_begin_8 ?_
  refine lv_iconst (v := 1) hx hb dX6_begin_11 hki_1 ?_
  refine lv_iconst (v := 1) hx hb dX6_begin_12 hki_1 ?_
  refine va_iast hx hb hK hP hD hS 1 0 rfl rfl (hs_in (by decide)) dX6_begin_13 (fun H locs hP hD hS => ?_)
  have hP : va_P D vwCl [_, oqI k t_weights 8 (upd (upd w 0 1) 1 1)] H := hP
  have hD : va_D A [_, oqI k t_weights 8 (upd (upd w 0 1) 1 1)] := hD
  refine lv_aload_n hx hb dX6_begin_14 rfl (lv_at hl 0 rfl) ?_
  refine lv_iconst (v := 2) hx hb dX6_begin_15 hki_2 ?_
  refine va_put (D := D) (ci := 5) (v := .int 2) (ty := .int) (C := RX6) (T := TX6) (N := 15) hx hb hts hiX6 tyX6 tyX6_ok nmX6 hown hK hP hD hS 0 rfl rfl 7 (Nat.le_of_ble_eq_true rfl) fl36 (fun _ h9 => h9) rfl (by decide +kernel) rfl rfl (Nat.le_of_ble_eq_true rfl) dX6_begin_16 (fun H locs hP hD hS => ?_)
  have hP : va_P D vwCl [oq5 t t_weights t_kindOf t_light t_heavy t_seenBy t_seenCut t_seenFound 2 t_peopleCount t_slip t_fine t_appealCount t_halfCount t_pairCount t_seenCount, _] H := hP
  have hD : va_D A [oq5 t t_weights t_kindOf t_light t_heavy t_seenBy t_seenCut t_seenFound 2 t_peopleCount t_slip t_fine t_appealCount t_halfCount t_pairCount t_seenCount, _] := hD
  refine lv_aload_n hx hb dX6_begin_19 rfl (lv_at hl 0 rfl) ?_
  refine lv_iconst (v := 0) hx hb dX6_begin_20 hki_0 ?_
  refine va_put (D := D) (ci := 5) (v := .int 0) (ty := .int) (C := RX6) (T := TX6) (N := 15) hx hb hts hiX6 tyX6 tyX6_ok nmX6 hown hK hP hD hS 0 rfl rfl 8 (Nat.le_of_ble_eq_true rfl) fl40 (fun _ h9 => h9) rfl (by decide +kernel) rfl rfl (Nat.le_of_ble_eq_true rfl) dX6_begin_21 (fun H locs hP hD hS => ?_)
  have hP : va_P D vwCl [oq5 t t_weights t_kindOf t_light t_heavy t_seenBy t_seenCut t_seenFound 2 0 t_slip t_fine t_appealCount t_halfCount t_pairCount t_seenCount, _] H := hP
  have hD : va_D A [oq5 t t_weights t_kindOf t_light t_heavy t_seenBy t_seenCut t_seenFound 2 0 t_slip t_fine t_appealCount t_halfCount t_pairCount t_seenCount, _] := hD
  refine lv_aload_n hx hb dX6_begin_24 rfl (lv_at hl 0 rfl) ?_
  refine lv_iconst (v := 0) hx hb dX6_begin_25 hki_0 ?_
  refine va_put (D := D) (ci := 5) (v := .int 0) (ty := .int) (C := RX6) (T := TX6) (N := 15) hx hb hts hiX6 tyX6 tyX6_ok nmX6 hown hK hP hD hS 0 rfl rfl 9 (Nat.le_of_ble_eq_true rfl) fl43 (fun _ h9 => h9) rfl (by decide +kernel) rfl rfl (Nat.le_of_ble_eq_true rfl) dX6_begin_26 (fun H locs hP hD hS => ?_)
  have hP : va_P D vwCl [oq5 t t_weights t_kindOf t_light t_heavy t_seenBy t_seenCut t_seenFound 2 0 0 t_fine t_appealCount t_halfCount t_pairCount t_seenCount, _] H := hP
  have hD : va_D A [oq5 t t_weights t_kindOf t_light t_heavy t_seenBy t_seenCut t_seenFound 2 0 0 t_fine t_appealCount t_halfCount t_pairCount t_seenCount, _] := hD
  refine lv_aload_n hx hb dX6_begin_29 rfl (lv_at hl 0 rfl) ?_
  refine lv_iconst (v := 0) hx hb dX6_begin_30 hki_0 ?_
  refine va_put (D := D) (ci := 5) (v := .int 0) (ty := .int) (C := RX6) (T := TX6) (N := 15) hx hb hts hiX6 tyX6 tyX6_ok nmX6 hown hK hP hD hS 0 rfl rfl 10 (Nat.le_of_ble_eq_true rfl) fl46 (fun _ h9 => h9) rfl (by decide +kernel) rfl rfl (Nat.le_of_ble_eq_true rfl) dX6_begin_31 (fun H locs hP hD hS => ?_)
  have hP : va_P D vwCl [oq5 t t_weights t_kindOf t_light t_heavy t_seenBy t_seenCut t_seenFound 2 0 0 0 t_appealCount t_halfCount t_pairCount t_seenCount, _] H := hP
  have hD : va_D A [oq5 t t_weights t_kindOf t_light t_heavy t_seenBy t_seenCut t_seenFound 2 0 0 0 t_appealCount t_halfCount t_pairCount t_seenCount, _] := hD
  refine lv_aload_n hx hb dX6_begin_34 rfl (lv_at hl 0 rfl) ?_
  refine lv_iconst (v := 0) hx hb dX6_begin_35 hki_0 ?_
  refine va_put (D := D) (ci := 5) (v := .int 0) (ty := .int) (C := RX6) (T := TX6) (N := 15) hx hb hts hiX6 tyX6 tyX6_ok nmX6 hown hK hP hD hS 0 rfl rfl 11 (Nat.le_of_ble_eq_true rfl) fl49 (fun _ h9 => h9) rfl (by decide +kernel) rfl rfl (Nat.le_of_ble_eq_true rfl) dX6_begin_36 (fun H locs hP hD hS => ?_)
  have hP : va_P D vwCl [oq5 t t_weights t_kindOf t_light t_heavy t_seenBy t_seenCut t_seenFound 2 0 0 0 0 t_halfCount t_pairCount t_seenCount, _] H := hP
  have hD : va_D A [oq5 t t_weights t_kindOf t_light t_heavy t_seenBy t_seenCut t_seenFound 2 0 0 0 0 t_halfCount t_pairCount t_seenCount, _] := hD
  refine lv_aload_n hx hb dX6_begin_39 rfl (lv_at hl 0 rfl) ?_
  refine lv_iconst (v := 2) hx hb dX6_begin_40 hki_2 ?_
  refine va_put (D := D) (ci := 5) (v := .int 2) (ty := .int) (C := RX6) (T := TX6) (N := 15) hx hb hts hiX6 tyX6 tyX6_ok nmX6 hown hK hP hD hS 0 rfl rfl 12 (Nat.le_of_ble_eq_true rfl) fl52 (fun _ h9 => h9) rfl (by decide +kernel) rfl rfl (Nat.le_of_ble_eq_true rfl) dX6_begin_41 (fun H locs hP hD hS => ?_)
  have hP : va_P D vwCl [oq5 t t_weights t_kindOf t_light t_heavy t_seenBy t_seenCut t_seenFound 2 0 0 0 0 2 t_pairCount t_seenCount, _] H := hP
  have hD : va_D A [oq5 t t_weights t_kindOf t_light t_heavy t_seenBy t_seenCut t_seenFound 2 0 0 0 0 2 t_pairCount t_seenCount, _] := hD
  refine lv_aload_n hx hb dX6_begin_44 rfl (lv_at hl 0 rfl) ?_
  refine lv_iconst (v := 0) hx hb dX6_begin_45 hki_0 ?_
  refine va_put (D := D) (ci := 5) (v := .int 0) (ty := .int) (C := RX6) (T := TX6) (N := 15) hx hb hts hiX6 tyX6 tyX6_ok nmX6 hown hK hP hD hS 0 rfl rfl 13 (Nat.le_of_ble_eq_true rfl) fl55 (fun _ h9 => h9) rfl (by decide +kernel) rfl rfl (Nat.le_of_ble_eq_true rfl) dX6_begin_46 (fun H locs hP hD hS => ?_)
  have hP : va_P D vwCl [oq5 t t_weights t_kindOf t_light t_heavy t_seenBy t_seenCut t_seenFound 2 0 0 0 0 2 0 t_seenCount, _] H := hP
  have hD : va_D A [oq5 t t_weights t_kindOf t_light t_heavy t_seenBy t_seenCut t_seenFound 2 0 0 0 0 2 0 t_seenCount, _] := hD
  refine lv_aload_n hx hb dX6_begin_49 rfl (lv_at hl 0 rfl) ?_
  refine lv_iconst (v := 0) hx hb dX6_begin_50 hki_0 ?_
  refine va_put (D := D) (ci := 5) (v := .int 0) (ty := .int) (C := RX6) (T := TX6) (N := 15) hx hb hts hiX6 tyX6 tyX6_ok nmX6 hown hK hP hD hS 0 rfl rfl 14 (Nat.le_of_ble_eq_true rfl) fl58 (fun _ h9 => h9) rfl (by decide +kernel) rfl rfl (Nat.le_of_ble_eq_true rfl) dX6_begin_51 (fun H locs hP hD hS => ?_)
  have hP : va_P D vwCl [oq5 t t_weights t_kindOf t_light t_heavy t_seenBy t_seenCut t_seenFound 2 0 0 0 0 2 0 0, _] H := hP
  have hD : va_D A [oq5 t t_weights t_kindOf t_light t_heavy t_seenBy t_seenCut t_seenFound 2 0 0 0 0 2 0 0, _] := hD
  exact hs_vret hx hb hr hlocks hK hP hD hS () [0, 1] rfl (hs_upnd rfl) dX6_begin_54 (trivial)

set_option maxHeartbeats 4000000 in
set_option maxRecDepth 100000 in
theorem c_Thing_init (l : Launch) (D : va_G) (k : Nat → ClassId) (sz : Nat) (t : Nat)  : MV l yX6_init wsX6_init ({ frames := 1, cells := 7, slots := 46, locals := 20 }) D k [.ref t] [(t, .inr (5, [.null, .null, .null, .null, .null, .null, .null, .int 0, .int 0, .int 0, .int 0, .int 0, .int 0, .int 0, .int 0]))] sz (fun (u : Nat → Nat) => True) (fun (u : Nat → Nat) => [oq5 t (u 0) (u 1) (u 2) (u 3) (u 4) (u 5) (u 6) 2 0 0 0 0 2 0 0, oqI k (u 0) 8 (hsw), oqI k (u 1) 4 (hsz), oqI k (u 2) 8 (hsz), oqI k (u 3) 8 (hsz), oqI k (u 4) 6 (hsz), oqI k (u 5) 6 (hsz), oqI k (u 6) 6 (hsz)]) := by
  refine Met.ofW (cc := cX6_init) (maxL := 1) (ret := none) hpn_X6 rfl ?_
  intro p e s m args below meth c s₁ B hml hv
  obtain ⟨rfl, hsz, hP, hK, hD0, hN⟩ := hv
  have hx := B.exec
  have hb := B.bytes
  have hr := B.returns
  have hlocks := B.notSynchronized
  have hts := atoms_spec (ws := wsX6_init) B.pre
  have hown := findClass_of_methodNamed B.named
  have hown : s.vm.findClass RX6 = some m.cls := hown
  have hin : meth.name = "<init>" := (name_of_methodNamed B.named B.method).1
  have hiX6 : ∀ w ∈ u_ws RX6 TX6 15, w ∈ wsX6_init := fun w9 hw9 => List.mem_cons_of_mem _ (igX6 w9 hw9)
  have fl9 := hts (.fieldLink RX6 9 "HalfScales$Thing" "weights" "[I") (List.mem_cons_of_mem _ (hs_inG 1 35 rfl rfl))
  have fl15 := hts (.fieldLink RX6 15 "HalfScales$Thing" "kindOf" "[I") (List.mem_cons_of_mem _ (hs_inG 1 38 rfl rfl))
  have fl18 := hts (.fieldLink RX6 18 "HalfScales$Thing" "light" "[I") (List.mem_cons_of_mem _ (hs_inG 1 40 rfl rfl))
  have fl21 := hts (.fieldLink RX6 21 "HalfScales$Thing" "heavy" "[I") (List.mem_cons_of_mem _ (hs_inG 1 44 rfl rfl))
  have fl24 := hts (.fieldLink RX6 24 "HalfScales$Thing" "seenBy" "[I") (List.mem_cons_of_mem _ (hs_inG 1 48 rfl rfl))
  have fl27 := hts (.fieldLink RX6 27 "HalfScales$Thing" "seenCut" "[I") (List.mem_cons_of_mem _ (hs_inG 1 49 rfl rfl))
  have fl30 := hts (.fieldLink RX6 30 "HalfScales$Thing" "seenFound" "[I") (List.mem_cons_of_mem _ (hs_inG 1 50 rfl rfl))
  have oi1 := hts (.methodLink RX6 3 objectInit) (List.mem_cons_of_mem _ (hs_inG 1 30 rfl rfl))
  have oi2 := hts (.instanceMethod objectInit) (List.mem_cons_of_mem _ (hs_inG 1 23 rfl rfl))
  have oi3 := hts (.code objectInit ⟨#[0xb1]⟩ 1 none) (List.mem_cons_of_mem _ (hs_inG 1 24 rfl rfl))
  have acI := hts (.arrayClass .int) (List.mem_cons_of_mem _ (hs_inG 1 109 rfl rfl))
  subst hsz
  have hD := hD0.self (sz := s.heap.size)
  generalize hAe : va_A [(t, .inr (5, [.null, .null, .null, .null, .null, .null, .null, .int 0, .int 0, .int 0, .int 0, .int 0, .int 0, .int 0, .int 0]))] s.heap.size = A at hD ⊢
  have hA : ∀ q : Nat, s.heap.size ≤ q → A q := fun q h => by rw [← hAe]; exact Or.inr h
  have hS : va_S A s.heap s.heap [] := va_S.rf
  have hl := lv_entry ([.ref t]) (n := 1) (Nat.le_of_ble_eq_true rfl)
  rw [lg_entry_eq]
  generalize (lg_sl ([.ref t]) ++ List.replicate (1 - (lg_sl ([.ref t])).length) Slot.unset).toArray = ls at hl ⊢
  have hl : lv_has ls 1 [(0, .ref t)] := hl
  have hP : va_P D vwCl [(t, .inr (5, [.null, .null, .null, .null, .null, .null, .null, .int 0, .int 0, .int 0, .int 0, .int 0, .int 0, .int 0, .int 0]))] s.heap := hP
  refine lv_aload_n hx hb dX6_init_0 rfl (lv_at hl 0 rfl) ?_
  refine W.objInit hx hb hown oi1 oi2 oi3 rfl (by rw [hml]; exact hl.1) rfl dX6_init_1 (Nat.le_of_ble_eq_true rfl) (Nat.le_of_ble_eq_true rfl) ?_
  refine W.eq (g2 := F0 m 4 ls []) rfl ?_
  refine lv_aload_n hx hb dX6_init_4 rfl (lv_at hl 0 rfl) ?_
  refine lv_bipush (v := 8) hx hb dX6_init_5 hkb_8 ?_
  refine va_newa (atype := .int) (ty := .int) (N' := 8) (a0 := (8, .inl hsz)) hx hb acI rfl hK hP hD hS hA (fun _ => rfl) (by decide) (by decide) (by decide) (Nat.le_of_ble_eq_true rfl) (Nat.le_of_ble_eq_true rfl) dX6_init_7 (fun q_1 cA H hK2 hP hD hS => ?_)
  obtain rfl : cA = k 0 := hs_cAI hK2
  have hP : va_P D vwCl [(t, .inr (5, [.null, .null, .null, .null, .null, .null, .null, .int 0, .int 0, .int 0, .int 0, .int 0, .int 0, .int 0, .int 0])), oqI k q_1 8 (hsz)] H := hP
  have hD : va_D A [(t, .inr (5, [.null, .null, .null, .null, .null, .null, .null, .int 0, .int 0, .int 0, .int 0, .int 0, .int 0, .int 0, .int 0])), oqI k q_1 8 (hsz)] := hD
  refine W.widen (k := 1) (n := 8) (Nat.le_of_ble_eq_true rfl) (Nat.le_of_ble_eq_true rfl) ?_
  refine va_putF (D := D) (ci := 5) (v := .ref q_1) (ty := (.array .int)) (C := RX6) (T := TX6) (N := 15) hx hb hts hiX6 tyX6 tyX6_ok nmX6 hown hK hP hD hS 0 rfl rfl 0 (Nat.le_of_ble_eq_true rfl) fl9 (fun _ h9 => h9) rfl hin rfl (by decide +kernel) rfl rfl (Nat.le_of_ble_eq_true rfl) dX6_init_9 (fun H locs hP hD hS => ?_)
  have hP : va_P D vwCl [(t, .inr (5, [.ref q_1, .null, .null, .null, .null, .null, .null, .int 0, .int 0, .int 0, .int 0, .int 0, .int 0, .int 0, .int 0])), _] H := hP
  have hD : va_D A [(t, .inr (5, [.ref q_1, .null, .null, .null, .null, .null, .null, .int 0, .int 0, .int 0, .int 0, .int 0, .int 0, .int 0, .int 0])), _] := hD
  refine lv_aload_n hx hb dX6_init_12 rfl (lv_at hl 0 rfl) ?_
  refine lv_iconst (v := 4) hx hb dX6_init_13 hki_4 ?_
  refine va_newa (atype := .int) (ty := .int) (N' := 4) (a0 := (4, .inl hsz)) hx hb acI rfl hK hP hD hS hA (fun _ => rfl) (by decide) (by decide) (by decide) (Nat.le_of_ble_eq_true rfl) (Nat.le_of_ble_eq_true rfl) dX6_init_14 (fun q_2 cA H hK2 hP hD hS => ?_)
  obtain rfl : cA = k 0 := hs_cAI hK2
  have hP : va_P D vwCl [(t, .inr (5, [.ref q_1, .null, .null, .null, .null, .null, .null, .int 0, .int 0, .int 0, .int 0, .int 0, .int 0, .int 0, .int 0])), oqI k q_1 8 (hsz), oqI k q_2 4 (hsz)] H := hP
  have hD : va_D A [(t, .inr (5, [.ref q_1, .null, .null, .null, .null, .null, .null, .int 0, .int 0, .int 0, .int 0, .int 0, .int 0, .int 0, .int 0])), oqI k q_1 8 (hsz), oqI k q_2 4 (hsz)] := hD
  refine W.widen (k := 2) (n := 12) (Nat.le_of_ble_eq_true rfl) (Nat.le_of_ble_eq_true rfl) ?_
  refine va_putF (D := D) (ci := 5) (v := .ref q_2) (ty := (.array .int)) (C := RX6) (T := TX6) (N := 15) hx hb hts hiX6 tyX6 tyX6_ok nmX6 hown hK hP hD hS 0 rfl rfl 1 (Nat.le_of_ble_eq_true rfl) fl15 (fun _ h9 => h9) rfl hin rfl (by decide +kernel) rfl rfl (Nat.le_of_ble_eq_true rfl) dX6_init_16 (fun H locs hP hD hS => ?_)
  have hP : va_P D vwCl [(t, .inr (5, [.ref q_1, .ref q_2, .null, .null, .null, .null, .null, .int 0, .int 0, .int 0, .int 0, .int 0, .int 0, .int 0, .int 0])), _, _] H := hP
  have hD : va_D A [(t, .inr (5, [.ref q_1, .ref q_2, .null, .null, .null, .null, .null, .int 0, .int 0, .int 0, .int 0, .int 0, .int 0, .int 0, .int 0])), _, _] := hD
  refine lv_aload_n hx hb dX6_init_19 rfl (lv_at hl 0 rfl) ?_
  refine lv_bipush (v := 8) hx hb dX6_init_20 hkb_8 ?_
  refine va_newa (atype := .int) (ty := .int) (N' := 8) (a0 := (8, .inl hsz)) hx hb acI rfl hK hP hD hS hA (fun _ => rfl) (by decide) (by decide) (by decide) (Nat.le_of_ble_eq_true rfl) (Nat.le_of_ble_eq_true rfl) dX6_init_22 (fun q_3 cA H hK2 hP hD hS => ?_)
  obtain rfl : cA = k 0 := hs_cAI hK2
  have hP : va_P D vwCl [(t, .inr (5, [.ref q_1, .ref q_2, .null, .null, .null, .null, .null, .int 0, .int 0, .int 0, .int 0, .int 0, .int 0, .int 0, .int 0])), oqI k q_1 8 (hsz), oqI k q_2 4 (hsz), oqI k q_3 8 (hsz)] H := hP
  have hD : va_D A [(t, .inr (5, [.ref q_1, .ref q_2, .null, .null, .null, .null, .null, .int 0, .int 0, .int 0, .int 0, .int 0, .int 0, .int 0, .int 0])), oqI k q_1 8 (hsz), oqI k q_2 4 (hsz), oqI k q_3 8 (hsz)] := hD
  refine W.widen (k := 3) (n := 20) (Nat.le_of_ble_eq_true rfl) (Nat.le_of_ble_eq_true rfl) ?_
  refine va_putF (D := D) (ci := 5) (v := .ref q_3) (ty := (.array .int)) (C := RX6) (T := TX6) (N := 15) hx hb hts hiX6 tyX6 tyX6_ok nmX6 hown hK hP hD hS 0 rfl rfl 2 (Nat.le_of_ble_eq_true rfl) fl18 (fun _ h9 => h9) rfl hin rfl (by decide +kernel) rfl rfl (Nat.le_of_ble_eq_true rfl) dX6_init_24 (fun H locs hP hD hS => ?_)
  have hP : va_P D vwCl [(t, .inr (5, [.ref q_1, .ref q_2, .ref q_3, .null, .null, .null, .null, .int 0, .int 0, .int 0, .int 0, .int 0, .int 0, .int 0, .int 0])), _, _, _] H := hP
  have hD : va_D A [(t, .inr (5, [.ref q_1, .ref q_2, .ref q_3, .null, .null, .null, .null, .int 0, .int 0, .int 0, .int 0, .int 0, .int 0, .int 0, .int 0])), _, _, _] := hD
  refine lv_aload_n hx hb dX6_init_27 rfl (lv_at hl 0 rfl) ?_
  refine lv_bipush (v := 8) hx hb dX6_init_28 hkb_8 ?_
  refine va_newa (atype := .int) (ty := .int) (N' := 8) (a0 := (8, .inl hsz)) hx hb acI rfl hK hP hD hS hA (fun _ => rfl) (by decide) (by decide) (by decide) (Nat.le_of_ble_eq_true rfl) (Nat.le_of_ble_eq_true rfl) dX6_init_30 (fun q_4 cA H hK2 hP hD hS => ?_)
  obtain rfl : cA = k 0 := hs_cAI hK2
  have hP : va_P D vwCl [(t, .inr (5, [.ref q_1, .ref q_2, .ref q_3, .null, .null, .null, .null, .int 0, .int 0, .int 0, .int 0, .int 0, .int 0, .int 0, .int 0])), oqI k q_1 8 (hsz), oqI k q_2 4 (hsz), oqI k q_3 8 (hsz), oqI k q_4 8 (hsz)] H := hP
  have hD : va_D A [(t, .inr (5, [.ref q_1, .ref q_2, .ref q_3, .null, .null, .null, .null, .int 0, .int 0, .int 0, .int 0, .int 0, .int 0, .int 0, .int 0])), oqI k q_1 8 (hsz), oqI k q_2 4 (hsz), oqI k q_3 8 (hsz), oqI k q_4 8 (hsz)] := hD
  refine W.widen (k := 4) (n := 28) (Nat.le_of_ble_eq_true rfl) (Nat.le_of_ble_eq_true rfl) ?_
  refine va_putF (D := D) (ci := 5) (v := .ref q_4) (ty := (.array .int)) (C := RX6) (T := TX6) (N := 15) hx hb hts hiX6 tyX6 tyX6_ok nmX6 hown hK hP hD hS 0 rfl rfl 3 (Nat.le_of_ble_eq_true rfl) fl21 (fun _ h9 => h9) rfl hin rfl (by decide +kernel) rfl rfl (Nat.le_of_ble_eq_true rfl) dX6_init_32 (fun H locs hP hD hS => ?_)
  have hP : va_P D vwCl [(t, .inr (5, [.ref q_1, .ref q_2, .ref q_3, .ref q_4, .null, .null, .null, .int 0, .int 0, .int 0, .int 0, .int 0, .int 0, .int 0, .int 0])), _, _, _, _] H := hP
  have hD : va_D A [(t, .inr (5, [.ref q_1, .ref q_2, .ref q_3, .ref q_4, .null, .null, .null, .int 0, .int 0, .int 0, .int 0, .int 0, .int 0, .int 0, .int 0])), _, _, _, _] := hD
  refine lv_aload_n hx hb dX6_init_35 rfl (lv_at hl 0 rfl) ?_
  refine lv_bipush (v := 6) hx hb dX6_init_36 hkb_6 ?_
  refine va_newa (atype := .int) (ty := .int) (N' := 6) (a0 := (6, .inl hsz)) hx hb acI rfl hK hP hD hS hA (fun _ => rfl) (by decide) (by decide) (by decide) (Nat.le_of_ble_eq_true rfl) (Nat.le_of_ble_eq_true rfl) dX6_init_38 (fun q_5 cA H hK2 hP hD hS => ?_)
  obtain rfl : cA = k 0 := hs_cAI hK2
  have hP : va_P D vwCl [(t, .inr (5, [.ref q_1, .ref q_2, .ref q_3, .ref q_4, .null, .null, .null, .int 0, .int 0, .int 0, .int 0, .int 0, .int 0, .int 0, .int 0])), oqI k q_1 8 (hsz), oqI k q_2 4 (hsz), oqI k q_3 8 (hsz), oqI k q_4 8 (hsz), oqI k q_5 6 (hsz)] H := hP
  have hD : va_D A [(t, .inr (5, [.ref q_1, .ref q_2, .ref q_3, .ref q_4, .null, .null, .null, .int 0, .int 0, .int 0, .int 0, .int 0, .int 0, .int 0, .int 0])), oqI k q_1 8 (hsz), oqI k q_2 4 (hsz), oqI k q_3 8 (hsz), oqI k q_4 8 (hsz), oqI k q_5 6 (hsz)] := hD
  refine W.widen (k := 5) (n := 34) (Nat.le_of_ble_eq_true rfl) (Nat.le_of_ble_eq_true rfl) ?_
  refine va_putF (D := D) (ci := 5) (v := .ref q_5) (ty := (.array .int)) (C := RX6) (T := TX6) (N := 15) hx hb hts hiX6 tyX6 tyX6_ok nmX6 hown hK hP hD hS 0 rfl rfl 4 (Nat.le_of_ble_eq_true rfl) fl24 (fun _ h9 => h9) rfl hin rfl (by decide +kernel) rfl rfl (Nat.le_of_ble_eq_true rfl) dX6_init_40 (fun H locs hP hD hS => ?_)
  have hP : va_P D vwCl [(t, .inr (5, [.ref q_1, .ref q_2, .ref q_3, .ref q_4, .ref q_5, .null, .null, .int 0, .int 0, .int 0, .int 0, .int 0, .int 0, .int 0, .int 0])), _, _, _, _, _] H := hP
  have hD : va_D A [(t, .inr (5, [.ref q_1, .ref q_2, .ref q_3, .ref q_4, .ref q_5, .null, .null, .int 0, .int 0, .int 0, .int 0, .int 0, .int 0, .int 0, .int 0])), _, _, _, _, _] := hD
  refine lv_aload_n hx hb dX6_init_43 rfl (lv_at hl 0 rfl) ?_
  refine lv_bipush (v := 6) hx hb dX6_init_44 hkb_6 ?_
  refine va_newa (atype := .int) (ty := .int) (N' := 6) (a0 := (6, .inl hsz)) hx hb acI rfl hK hP hD hS hA (fun _ => rfl) (by decide) (by decide) (by decide) (Nat.le_of_ble_eq_true rfl) (Nat.le_of_ble_eq_true rfl) dX6_init_46 (fun q_6 cA H hK2 hP hD hS => ?_)
  obtain rfl : cA = k 0 := hs_cAI hK2
  have hP : va_P D vwCl [(t, .inr (5, [.ref q_1, .ref q_2, .ref q_3, .ref q_4, .ref q_5, .null, .null, .int 0, .int 0, .int 0, .int 0, .int 0, .int 0, .int 0, .int 0])), oqI k q_1 8 (hsz), oqI k q_2 4 (hsz), oqI k q_3 8 (hsz), oqI k q_4 8 (hsz), oqI k q_5 6 (hsz), oqI k q_6 6 (hsz)] H := hP
  have hD : va_D A [(t, .inr (5, [.ref q_1, .ref q_2, .ref q_3, .ref q_4, .ref q_5, .null, .null, .int 0, .int 0, .int 0, .int 0, .int 0, .int 0, .int 0, .int 0])), oqI k q_1 8 (hsz), oqI k q_2 4 (hsz), oqI k q_3 8 (hsz), oqI k q_4 8 (hsz), oqI k q_5 6 (hsz), oqI k q_6 6 (hsz)] := hD
  refine W.widen (k := 6) (n := 40) (Nat.le_of_ble_eq_true rfl) (Nat.le_of_ble_eq_true rfl) ?_
  refine va_putF (D := D) (ci := 5) (v := .ref q_6) (ty := (.array .int)) (C := RX6) (T := TX6) (N := 15) hx hb hts hiX6 tyX6 tyX6_ok nmX6 hown hK hP hD hS 0 rfl rfl 5 (Nat.le_of_ble_eq_true rfl) fl27 (fun _ h9 => h9) rfl hin rfl (by decide +kernel) rfl rfl (Nat.le_of_ble_eq_true rfl) dX6_init_48 (fun H locs hP hD hS => ?_)
  have hP : va_P D vwCl [(t, .inr (5, [.ref q_1, .ref q_2, .ref q_3, .ref q_4, .ref q_5, .ref q_6, .null, .int 0, .int 0, .int 0, .int 0, .int 0, .int 0, .int 0, .int 0])), _, _, _, _, _, _] H := hP
  have hD : va_D A [(t, .inr (5, [.ref q_1, .ref q_2, .ref q_3, .ref q_4, .ref q_5, .ref q_6, .null, .int 0, .int 0, .int 0, .int 0, .int 0, .int 0, .int 0, .int 0])), _, _, _, _, _, _] := hD
  refine lv_aload_n hx hb dX6_init_51 rfl (lv_at hl 0 rfl) ?_
  refine lv_bipush (v := 6) hx hb dX6_init_52 hkb_6 ?_
  refine va_newa (atype := .int) (ty := .int) (N' := 6) (a0 := (6, .inl hsz)) hx hb acI rfl hK hP hD hS hA (fun _ => rfl) (by decide) (by decide) (by decide) (Nat.le_of_ble_eq_true rfl) (Nat.le_of_ble_eq_true rfl) dX6_init_54 (fun q_7 cA H hK2 hP hD hS => ?_)
  obtain rfl : cA = k 0 := hs_cAI hK2
  have hP : va_P D vwCl [(t, .inr (5, [.ref q_1, .ref q_2, .ref q_3, .ref q_4, .ref q_5, .ref q_6, .null, .int 0, .int 0, .int 0, .int 0, .int 0, .int 0, .int 0, .int 0])), oqI k q_1 8 (hsz), oqI k q_2 4 (hsz), oqI k q_3 8 (hsz), oqI k q_4 8 (hsz), oqI k q_5 6 (hsz), oqI k q_6 6 (hsz), oqI k q_7 6 (hsz)] H := hP
  have hD : va_D A [(t, .inr (5, [.ref q_1, .ref q_2, .ref q_3, .ref q_4, .ref q_5, .ref q_6, .null, .int 0, .int 0, .int 0, .int 0, .int 0, .int 0, .int 0, .int 0])), oqI k q_1 8 (hsz), oqI k q_2 4 (hsz), oqI k q_3 8 (hsz), oqI k q_4 8 (hsz), oqI k q_5 6 (hsz), oqI k q_6 6 (hsz), oqI k q_7 6 (hsz)] := hD
  refine W.widen (k := 7) (n := 46) (Nat.le_of_ble_eq_true rfl) (Nat.le_of_ble_eq_true rfl) ?_
  refine va_putF (D := D) (ci := 5) (v := .ref q_7) (ty := (.array .int)) (C := RX6) (T := TX6) (N := 15) hx hb hts hiX6 tyX6 tyX6_ok nmX6 hown hK hP hD hS 0 rfl rfl 6 (Nat.le_of_ble_eq_true rfl) fl30 (fun _ h9 => h9) rfl hin rfl (by decide +kernel) rfl rfl (Nat.le_of_ble_eq_true rfl) dX6_init_56 (fun H locs hP hD hS => ?_)
  have hP : va_P D vwCl [oq5 t q_1 q_2 q_3 q_4 q_5 q_6 q_7 0 0 0 0 0 0 0 0, _, _, _, _, _, _, _] H := hP
  have hD : va_D A [oq5 t q_1 q_2 q_3 q_4 q_5 q_6 q_7 0 0 0 0 0 0 0 0, _, _, _, _, _, _, _] := hD
  refine lv_aload_n hx hb dX6_init_59 rfl (lv_at hl 0 rfl) ?_
  refine hs_cvM (va_runV (As := []) (rest := []) ⟨hx, hb, hml, hown, hts⟩ (c_begin l D k _ t q_1 q_2 q_3 q_4 q_5 q_6 q_7 0 0 0 0 0 0 0 0 hsz) (cwV 0 hts gX6_init_X6_begin rfl rfl rfl ⟨rfl, hq_X6_begin⟩ ⟨Nat.le_of_ble_eq_true rfl, Nat.le_of_ble_eq_true rfl⟩) (hs_preV hK hN (hs_subP (w := [_, _]) hP [0, 1] rfl) (hD.sub (ws' := [_, _]) [0, 1] (hs_upnd rfl) rfl) (ci := 5) (q0 := 0) rfl rfl) rfl rfl hl.1 rfl (lv_room (Nat.le_of_ble_eq_true rfl)) dX6_init_60 ⟨Nat.le_of_ble_eq_true rfl, Nat.le_of_ble_eq_true rfl⟩) hP hD hS hA [false, false, true, true, true, true, true, true] [_, _, _, _, _, _] [_, _] rfl [0, 1] rfl [0, 1] (fun u_10 => [_, _]) (fun _ => rfl) (hs_upnd rfl) [false, false, true, true, true, true, true, true] (fun u_10 => [_, _, _, _, _, _, _, _]) (fun _ => rfl) (fun u_10 H locs hw_9 hP hD hS => ?_)
  refine W.widen (k := 7) (n := 46) (Nat.le_of_ble_eq_true rfl) (Nat.le_of_ble_eq_true rfl) ?_
  exact hs_vret hx hb hr hlocks hK hP hD hS (fun i => ([q_1, q_2, q_3, q_4, q_5, q_6, q_7] : List Nat).getD i 0) [0, 1, 2, 3, 4, 5, 6, 7] rfl (hs_upnd rfl) dX6_init_63 (trivial)

set_option maxHeartbeats 4000000 in
set_option maxRecDepth 100000 in
theorem c_Tape_init (l : Launch) (D : va_G) (k : Nat → ClassId) (sz : Nat) (t : Nat)  : MV l yX4_init wsX4_init ({ frames := 1, cells := 1, slots := 160, locals := 12 }) D k [.ref t] [(t, .inr (3, [.null, .int 0, .int 0, .int 0, .int 0, .int 0]))] sz (fun (u : Nat → Nat) => True) (fun (u : Nat → Nat) => [oq3 t (u 0) 0 0 0 0 0, oqI k (u 0) 160 (hsz)]) := by
  refine Met.ofW (cc := cX4_init) (maxL := 1) (ret := none) hpn_X4 rfl ?_
  intro p e s m args below meth c s₁ B hml hv
  obtain ⟨rfl, hsz, hP, hK, hD0, hN⟩ := hv
  have hx := B.exec
  have hb := B.bytes
  have hr := B.returns
  have hlocks := B.notSynchronized
  have hts := atoms_spec (ws := wsX4_init) B.pre
  have hown := findClass_of_methodNamed B.named
  have hown : s.vm.findClass RX4 = some m.cls := hown
  have hin : meth.name = "<init>" := (name_of_methodNamed B.named B.method).1
  have hiX4 : ∀ w ∈ u_ws RX4 TX4 6, w ∈ wsX4_init := fun w9 hw9 => List.mem_cons_of_mem _ (igX4 w9 hw9)
  have fl9 := hts (.fieldLink RX4 9 "HalfScales$Tape" "bytes" "[I") (List.mem_cons_of_mem _ (hs_inG 1 123 rfl rfl))
  have oi1 := hts (.methodLink RX4 3 objectInit) (List.mem_cons_of_mem _ (hs_inG 1 122 rfl rfl))
  have oi2 := hts (.instanceMethod objectInit) (List.mem_cons_of_mem _ (hs_inG 1 23 rfl rfl))
  have oi3 := hts (.code objectInit ⟨#[0xb1]⟩ 1 none) (List.mem_cons_of_mem _ (hs_inG 1 24 rfl rfl))
  have acI := hts (.arrayClass .int) (List.mem_cons_of_mem _ (hs_inG 1 109 rfl rfl))
  subst hsz
  have hD := hD0.self (sz := s.heap.size)
  generalize hAe : va_A [(t, .inr (3, [.null, .int 0, .int 0, .int 0, .int 0, .int 0]))] s.heap.size = A at hD ⊢
  have hA : ∀ q : Nat, s.heap.size ≤ q → A q := fun q h => by rw [← hAe]; exact Or.inr h
  have hS : va_S A s.heap s.heap [] := va_S.rf
  have hl := lv_entry ([.ref t]) (n := 1) (Nat.le_of_ble_eq_true rfl)
  rw [lg_entry_eq]
  generalize (lg_sl ([.ref t]) ++ List.replicate (1 - (lg_sl ([.ref t])).length) Slot.unset).toArray = ls at hl ⊢
  have hl : lv_has ls 1 [(0, .ref t)] := hl
  have hP : va_P D vwCl [(t, .inr (3, [.null, .int 0, .int 0, .int 0, .int 0, .int 0]))] s.heap := hP
  refine lv_aload_n hx hb dX4_init_0 rfl (lv_at hl 0 rfl) ?_
  refine W.objInit hx hb hown oi1 oi2 oi3 rfl (by rw [hml]; exact hl.1) rfl dX4_init_1 (Nat.le_of_ble_eq_true rfl) (Nat.le_of_ble_eq_true rfl) ?_
  refine W.eq (g2 := F0 m 4 ls []) rfl ?_
  refine lv_aload_n hx hb dX4_init_4 rfl (lv_at hl 0 rfl) ?_
  refine lv_sipush (v := 160) hx hb dX4_init_5 hkp_160 ?_
  refine va_newa (atype := .int) (ty := .int) (N' := 160) (a0 := (160, .inl hsz)) hx hb acI rfl hK hP hD hS hA (fun _ => rfl) (by decide) (by decide) (by decide) (Nat.le_of_ble_eq_true rfl) (Nat.le_of_ble_eq_true rfl) dX4_init_8 (fun q_1 cA H hK2 hP hD hS => ?_)
  obtain rfl : cA = k 0 := hs_cAI hK2
  have hP : va_P D vwCl [(t, .inr (3, [.null, .int 0, .int 0, .int 0, .int 0, .int 0])), oqI k q_1 160 (hsz)] H := hP
  have hD : va_D A [(t, .inr (3, [.null, .int 0, .int 0, .int 0, .int 0, .int 0])), oqI k q_1 160 (hsz)] := hD
  refine W.widen (k := 1) (n := 160) (Nat.le_of_ble_eq_true rfl) (Nat.le_of_ble_eq_true rfl) ?_
  refine va_putF (D := D) (ci := 3) (v := .ref q_1) (ty := (.array .int)) (C := RX4) (T := TX4) (N := 6) hx hb hts hiX4 tyX4 tyX4_ok nmX4 hown hK hP hD hS 0 rfl rfl 0 (Nat.le_of_ble_eq_true rfl) fl9 (fun _ h9 => h9) rfl hin rfl (by decide +kernel) rfl rfl (Nat.le_of_ble_eq_true rfl) dX4_init_10 (fun H locs hP hD hS => ?_)
  have hP : va_P D vwCl [oq3 t q_1 0 0 0 0 0, _] H := hP
  have hD : va_D A [oq3 t q_1 0 0 0 0 0, _] := hD
  refine W.widen (k := 1) (n := 160) (Nat.le_of_ble_eq_true rfl) (Nat.le_of_ble_eq_true rfl) ?_
  exact hs_vret hx hb hr hlocks hK hP hD hS (fun i => ([q_1] : List Nat).getD i 0) [0, 1] rfl (hs_upnd rfl) dX4_init_13 (trivial)

set_option maxHeartbeats 4000000 in
set_option maxRecDepth 100000 in
theorem c_Ranks_init (l : Launch) (D : va_G) (k : Nat → ClassId) (sz : Nat) (t : Nat)  : MV l yX2_init wsX2_init ({ frames := 1, cells := 2, slots := 37, locals := 12 }) D k [.ref t] [(t, .inr (1, [.null, .null, .int 0]))] sz (fun (u : Nat → Nat) => True) (fun (u : Nat → Nat) => [oq1 t (u 0) (u 1) 0, oqI k (u 0) 5 (hsz), oqI k (u 1) 32 (hsz)]) := by
  refine Met.ofW (cc := cX2_init) (maxL := 1) (ret := none) hpn_X2 rfl ?_
  intro p e s m args below meth c s₁ B hml hv
  obtain ⟨rfl, hsz, hP, hK, hD0, hN⟩ := hv
  have hx := B.exec
  have hb := B.bytes
  have hr := B.returns
  have hlocks := B.notSynchronized
  have hts := atoms_spec (ws := wsX2_init) B.pre
  have hown := findClass_of_methodNamed B.named
  have hown : s.vm.findClass RX2 = some m.cls := hown
  have hin : meth.name = "<init>" := (name_of_methodNamed B.named B.method).1
  have hiX2 : ∀ w ∈ u_ws RX2 TX2 3, w ∈ wsX2_init := fun w9 hw9 => List.mem_cons_of_mem _ (igX2 w9 hw9)
  have fl9 := hts (.fieldLink RX2 9 "HalfScales$Ranks" "ahead" "[I") (List.mem_cons_of_mem _ (hs_inG 1 176 rfl rfl))
  have fl15 := hts (.fieldLink RX2 15 "HalfScales$Ranks" "ways" "[I") (List.mem_cons_of_mem _ (hs_inG 1 177 rfl rfl))
  have oi1 := hts (.methodLink RX2 3 objectInit) (List.mem_cons_of_mem _ (hs_inG 1 175 rfl rfl))
  have oi2 := hts (.instanceMethod objectInit) (List.mem_cons_of_mem _ (hs_inG 1 23 rfl rfl))
  have oi3 := hts (.code objectInit ⟨#[0xb1]⟩ 1 none) (List.mem_cons_of_mem _ (hs_inG 1 24 rfl rfl))
  have acI := hts (.arrayClass .int) (List.mem_cons_of_mem _ (hs_inG 1 109 rfl rfl))
  subst hsz
  have hD := hD0.self (sz := s.heap.size)
  generalize hAe : va_A [(t, .inr (1, [.null, .null, .int 0]))] s.heap.size = A at hD ⊢
  have hA : ∀ q : Nat, s.heap.size ≤ q → A q := fun q h => by rw [← hAe]; exact Or.inr h
  have hS : va_S A s.heap s.heap [] := va_S.rf
  have hl := lv_entry ([.ref t]) (n := 1) (Nat.le_of_ble_eq_true rfl)
  rw [lg_entry_eq]
  generalize (lg_sl ([.ref t]) ++ List.replicate (1 - (lg_sl ([.ref t])).length) Slot.unset).toArray = ls at hl ⊢
  have hl : lv_has ls 1 [(0, .ref t)] := hl
  have hP : va_P D vwCl [(t, .inr (1, [.null, .null, .int 0]))] s.heap := hP
  refine lv_aload_n hx hb dX2_init_0 rfl (lv_at hl 0 rfl) ?_
  refine W.objInit hx hb hown oi1 oi2 oi3 rfl (by rw [hml]; exact hl.1) rfl dX2_init_1 (Nat.le_of_ble_eq_true rfl) (Nat.le_of_ble_eq_true rfl) ?_
  refine W.eq (g2 := F0 m 4 ls []) rfl ?_
  refine lv_aload_n hx hb dX2_init_4 rfl (lv_at hl 0 rfl) ?_
  refine lv_iconst (v := 5) hx hb dX2_init_5 hki_5 ?_
  refine va_newa (atype := .int) (ty := .int) (N' := 5) (a0 := (5, .inl hsz)) hx hb acI rfl hK hP hD hS hA (fun _ => rfl) (by decide) (by decide) (by decide) (Nat.le_of_ble_eq_true rfl) (Nat.le_of_ble_eq_true rfl) dX2_init_6 (fun q_1 cA H hK2 hP hD hS => ?_)
  obtain rfl : cA = k 0 := hs_cAI hK2
  have hP : va_P D vwCl [(t, .inr (1, [.null, .null, .int 0])), oqI k q_1 5 (hsz)] H := hP
  have hD : va_D A [(t, .inr (1, [.null, .null, .int 0])), oqI k q_1 5 (hsz)] := hD
  refine W.widen (k := 1) (n := 5) (Nat.le_of_ble_eq_true rfl) (Nat.le_of_ble_eq_true rfl) ?_
  refine va_putF (D := D) (ci := 1) (v := .ref q_1) (ty := (.array .int)) (C := RX2) (T := TX2) (N := 3) hx hb hts hiX2 tyX2 tyX2_ok nmX2 hown hK hP hD hS 0 rfl rfl 0 (Nat.le_of_ble_eq_true rfl) fl9 (fun _ h9 => h9) rfl hin rfl (by decide +kernel) rfl rfl (Nat.le_of_ble_eq_true rfl) dX2_init_8 (fun H locs hP hD hS => ?_)
  have hP : va_P D vwCl [(t, .inr (1, [.ref q_1, .null, .int 0])), _] H := hP
  have hD : va_D A [(t, .inr (1, [.ref q_1, .null, .int 0])), _] := hD
  refine lv_aload_n hx hb dX2_init_11 rfl (lv_at hl 0 rfl) ?_
  refine lv_bipush (v := 32) hx hb dX2_init_12 hkb_32 ?_
  refine va_newa (atype := .int) (ty := .int) (N' := 32) (a0 := (32, .inl hsz)) hx hb acI rfl hK hP hD hS hA (fun _ => rfl) (by decide) (by decide) (by decide) (Nat.le_of_ble_eq_true rfl) (Nat.le_of_ble_eq_true rfl) dX2_init_14 (fun q_2 cA H hK2 hP hD hS => ?_)
  obtain rfl : cA = k 0 := hs_cAI hK2
  have hP : va_P D vwCl [(t, .inr (1, [.ref q_1, .null, .int 0])), oqI k q_1 5 (hsz), oqI k q_2 32 (hsz)] H := hP
  have hD : va_D A [(t, .inr (1, [.ref q_1, .null, .int 0])), oqI k q_1 5 (hsz), oqI k q_2 32 (hsz)] := hD
  refine W.widen (k := 2) (n := 37) (Nat.le_of_ble_eq_true rfl) (Nat.le_of_ble_eq_true rfl) ?_
  refine va_putF (D := D) (ci := 1) (v := .ref q_2) (ty := (.array .int)) (C := RX2) (T := TX2) (N := 3) hx hb hts hiX2 tyX2 tyX2_ok nmX2 hown hK hP hD hS 0 rfl rfl 1 (Nat.le_of_ble_eq_true rfl) fl15 (fun _ h9 => h9) rfl hin rfl (by decide +kernel) rfl rfl (Nat.le_of_ble_eq_true rfl) dX2_init_16 (fun H locs hP hD hS => ?_)
  have hP : va_P D vwCl [oq1 t q_1 q_2 0, _, _] H := hP
  have hD : va_D A [oq1 t q_1 q_2 0, _, _] := hD
  refine W.widen (k := 2) (n := 37) (Nat.le_of_ble_eq_true rfl) (Nat.le_of_ble_eq_true rfl) ?_
  exact hs_vret hx hb hr hlocks hK hP hD hS (fun i => ([q_1, q_2] : List Nat).getD i 0) [0, 1, 2] rfl (hs_upnd rfl) dX2_init_19 (trivial)

set_option maxHeartbeats 4000000 in
set_option maxRecDepth 100000 in
theorem c_Court_init (l : Launch) (D : va_G) (k : Nat → ClassId) (sz : Nat) (t : Nat)  : MV l yX0_init wsX0_init ({ frames := 1, cells := 1, slots := 5, locals := 12 }) D k [.ref t] [(t, .inr (0, [.null]))] sz (fun (u : Nat → Nat) => True) (fun (u : Nat → Nat) => [oq0 t (u 0), oqL k (u 0) 5 (hszl)]) := by
  refine Met.ofW (cc := cX0_init) (maxL := 1) (ret := none) hpn_X0 rfl ?_
  intro p e s m args below meth c s₁ B hml hv
  obtain ⟨rfl, hsz, hP, hK, hD0, hN⟩ := hv
  have hx := B.exec
  have hb := B.bytes
  have hr := B.returns
  have hlocks := B.notSynchronized
  have hts := atoms_spec (ws := wsX0_init) B.pre
  have hown := findClass_of_methodNamed B.named
  have hown : s.vm.findClass RX0 = some m.cls := hown
  have hin : meth.name = "<init>" := (name_of_methodNamed B.named B.method).1
  have hiX0 : ∀ w ∈ u_ws RX0 TX0 1, w ∈ wsX0_init := fun w9 hw9 => List.mem_cons_of_mem _ (igX0 w9 hw9)
  have fl9 := hts (.fieldLink RX0 9 "HalfScales$Court" "tell" "[J") (List.mem_cons_of_mem _ (hs_inG 1 192 rfl rfl))
  have oi1 := hts (.methodLink RX0 3 objectInit) (List.mem_cons_of_mem _ (hs_inG 1 191 rfl rfl))
  have oi2 := hts (.instanceMethod objectInit) (List.mem_cons_of_mem _ (hs_inG 1 23 rfl rfl))
  have oi3 := hts (.code objectInit ⟨#[0xb1]⟩ 1 none) (List.mem_cons_of_mem _ (hs_inG 1 24 rfl rfl))
  have acJ := hts (.arrayClass .long) (List.mem_cons_of_mem _ (hs_inG 1 196 rfl rfl))
  subst hsz
  have hD := hD0.self (sz := s.heap.size)
  generalize hAe : va_A [(t, .inr (0, [.null]))] s.heap.size = A at hD ⊢
  have hA : ∀ q : Nat, s.heap.size ≤ q → A q := fun q h => by rw [← hAe]; exact Or.inr h
  have hS : va_S A s.heap s.heap [] := va_S.rf
  have hl := lv_entry ([.ref t]) (n := 1) (Nat.le_of_ble_eq_true rfl)
  rw [lg_entry_eq]
  generalize (lg_sl ([.ref t]) ++ List.replicate (1 - (lg_sl ([.ref t])).length) Slot.unset).toArray = ls at hl ⊢
  have hl : lv_has ls 1 [(0, .ref t)] := hl
  have hP : va_P D vwCl [(t, .inr (0, [.null]))] s.heap := hP
  refine lv_aload_n hx hb dX0_init_0 rfl (lv_at hl 0 rfl) ?_
  refine W.objInit hx hb hown oi1 oi2 oi3 rfl (by rw [hml]; exact hl.1) rfl dX0_init_1 (Nat.le_of_ble_eq_true rfl) (Nat.le_of_ble_eq_true rfl) ?_
  refine W.eq (g2 := F0 m 4 ls []) rfl ?_
  refine lv_aload_n hx hb dX0_init_4 rfl (lv_at hl 0 rfl) ?_
  refine lv_iconst (v := 5) hx hb dX0_init_5 hki_5 ?_
  refine va_newa (atype := .long) (ty := .long) (N' := 5) (a0 := (5, .inr (.inl hszl))) hx hb acJ rfl hK hP hD hS hA (fun _ => rfl) (by decide) (by decide) (by decide) (Nat.le_of_ble_eq_true rfl) (Nat.le_of_ble_eq_true rfl) dX0_init_6 (fun q_1 cA H hK2 hP hD hS => ?_)
  obtain rfl : cA = k 1 := hs_cAJ hK2
  have hP : va_P D vwCl [(t, .inr (0, [.null])), oqL k q_1 5 (hszl)] H := hP
  have hD : va_D A [(t, .inr (0, [.null])), oqL k q_1 5 (hszl)] := hD
  refine W.widen (k := 1) (n := 5) (Nat.le_of_ble_eq_true rfl) (Nat.le_of_ble_eq_true rfl) ?_
  refine va_putF (D := D) (ci := 0) (v := .ref q_1) (ty := (.array .long)) (C := RX0) (T := TX0) (N := 1) hx hb hts hiX0 tyX0 tyX0_ok nmX0 hown hK hP hD hS 0 rfl rfl 0 (Nat.le_of_ble_eq_true rfl) fl9 (fun _ h9 => h9) rfl hin rfl (by decide +kernel) rfl rfl (Nat.le_of_ble_eq_true rfl) dX0_init_8 (fun H locs hP hD hS => ?_)
  have hP : va_P D vwCl [oq0 t q_1, _] H := hP
  have hD : va_D A [oq0 t q_1, _] := hD
  refine W.widen (k := 1) (n := 5) (Nat.le_of_ble_eq_true rfl) (Nat.le_of_ble_eq_true rfl) ?_
  exact hs_vret hx hb hr hlocks hK hP hD hS (fun i => ([q_1] : List Nat).getD i 0) [0, 1] rfl (hs_upnd rfl) dX0_init_11 (trivial)

set_option maxHeartbeats 4000000 in
set_option maxRecDepth 100000 in
theorem c_Sheet_init (l : Launch) (D : va_G) (k : Nat → ClassId) (sz : Nat) (t : Nat)  : MV l yX3_init wsX3_init ({ frames := 1, cells := 1, slots := 40, locals := 12 }) D k [.ref t] [(t, .inr (2, [.null, .int 0, .int 0]))] sz (fun (u : Nat → Nat) => True) (fun (u : Nat → Nat) => [oq2 t (u 0) (-1) 0, oqI k (u 0) 40 (hsz)]) := by
  refine Met.ofW (cc := cX3_init) (maxL := 1) (ret := none) hpn_X3 rfl ?_
  intro p e s m args below meth c s₁ B hml hv
  obtain ⟨rfl, hsz, hP, hK, hD0, hN⟩ := hv
  have hx := B.exec
  have hb := B.bytes
  have hr := B.returns
  have hlocks := B.notSynchronized
  have hts := atoms_spec (ws := wsX3_init) B.pre
  have hown := findClass_of_methodNamed B.named
  have hown : s.vm.findClass RX3 = some m.cls := hown
  have hin : meth.name = "<init>" := (name_of_methodNamed B.named B.method).1
  have hiX3 : ∀ w ∈ u_ws RX3 TX3 3, w ∈ wsX3_init := fun w9 hw9 => List.mem_cons_of_mem _ (igX3 w9 hw9)
  have fl9 := hts (.fieldLink RX3 9 "HalfScales$Sheet" "row" "[I") (List.mem_cons_of_mem _ (hs_inG 1 204 rfl rfl))
  have fl13 := hts (.fieldLink RX3 13 "HalfScales$Sheet" "laneOf" "I") (List.mem_cons_of_mem _ (hs_inG 1 205 rfl rfl))
  have oi1 := hts (.methodLink RX3 1 objectInit) (List.mem_cons_of_mem _ (hs_inG 1 203 rfl rfl))
  have oi2 := hts (.instanceMethod objectInit) (List.mem_cons_of_mem _ (hs_inG 1 23 rfl rfl))
  have oi3 := hts (.code objectInit ⟨#[0xb1]⟩ 1 none) (List.mem_cons_of_mem _ (hs_inG 1 24 rfl rfl))
  have acI := hts (.arrayClass .int) (List.mem_cons_of_mem _ (hs_inG 1 109 rfl rfl))
  subst hsz
  have hD := hD0.self (sz := s.heap.size)
  generalize hAe : va_A [(t, .inr (2, [.null, .int 0, .int 0]))] s.heap.size = A at hD ⊢
  have hA : ∀ q : Nat, s.heap.size ≤ q → A q := fun q h => by rw [← hAe]; exact Or.inr h
  have hS : va_S A s.heap s.heap [] := va_S.rf
  have hl := lv_entry ([.ref t]) (n := 1) (Nat.le_of_ble_eq_true rfl)
  rw [lg_entry_eq]
  generalize (lg_sl ([.ref t]) ++ List.replicate (1 - (lg_sl ([.ref t])).length) Slot.unset).toArray = ls at hl ⊢
  have hl : lv_has ls 1 [(0, .ref t)] := hl
  have hP : va_P D vwCl [(t, .inr (2, [.null, .int 0, .int 0]))] s.heap := hP
  refine lv_aload_n hx hb dX3_init_0 rfl (lv_at hl 0 rfl) ?_
  refine W.objInit hx hb hown oi1 oi2 oi3 rfl (by rw [hml]; exact hl.1) rfl dX3_init_1 (Nat.le_of_ble_eq_true rfl) (Nat.le_of_ble_eq_true rfl) ?_
  refine W.eq (g2 := F0 m 4 ls []) rfl ?_
  refine lv_aload_n hx hb dX3_init_4 rfl (lv_at hl 0 rfl) ?_
  refine lv_bipush (v := 40) hx hb dX3_init_5 hkb_40 ?_
  refine va_newa (atype := .int) (ty := .int) (N' := 40) (a0 := (40, .inl hsz)) hx hb acI rfl hK hP hD hS hA (fun _ => rfl) (by decide) (by decide) (by decide) (Nat.le_of_ble_eq_true rfl) (Nat.le_of_ble_eq_true rfl) dX3_init_7 (fun q_1 cA H hK2 hP hD hS => ?_)
  obtain rfl : cA = k 0 := hs_cAI hK2
  have hP : va_P D vwCl [(t, .inr (2, [.null, .int 0, .int 0])), oqI k q_1 40 (hsz)] H := hP
  have hD : va_D A [(t, .inr (2, [.null, .int 0, .int 0])), oqI k q_1 40 (hsz)] := hD
  refine W.widen (k := 1) (n := 40) (Nat.le_of_ble_eq_true rfl) (Nat.le_of_ble_eq_true rfl) ?_
  refine va_putF (D := D) (ci := 2) (v := .ref q_1) (ty := (.array .int)) (C := RX3) (T := TX3) (N := 3) hx hb hts hiX3 tyX3 tyX3_ok nmX3 hown hK hP hD hS 0 rfl rfl 0 (Nat.le_of_ble_eq_true rfl) fl9 (fun _ h9 => h9) rfl hin rfl (by decide +kernel) rfl rfl (Nat.le_of_ble_eq_true rfl) dX3_init_9 (fun H locs hP hD hS => ?_)
  have hP : va_P D vwCl [oq2 t q_1 0 0, _] H := hP
  have hD : va_D A [oq2 t q_1 0 0, _] := hD
  refine lv_aload_n hx hb dX3_init_12 rfl (lv_at hl 0 rfl) ?_
  refine lv_iconst (v := (-1)) hx hb dX3_init_13 hki_m1 ?_
  refine va_put (D := D) (ci := 2) (v := .int (-1)) (ty := .int) (C := RX3) (T := TX3) (N := 3) hx hb hts hiX3 tyX3 tyX3_ok nmX3 hown hK hP hD hS 0 rfl rfl 1 (Nat.le_of_ble_eq_true rfl) fl13 (fun _ h9 => h9) rfl (by decide +kernel) rfl rfl (Nat.le_of_ble_eq_true rfl) dX3_init_14 (fun H locs hP hD hS => ?_)
  have hP : va_P D vwCl [oq2 t q_1 (-1) 0, _] H := hP
  have hD : va_D A [oq2 t q_1 (-1) 0, _] := hD
  refine W.widen (k := 1) (n := 40) (Nat.le_of_ble_eq_true rfl) (Nat.le_of_ble_eq_true rfl) ?_
  exact hs_vret hx hb hr hlocks hK hP hD hS (fun i => ([q_1] : List Nat).getD i 0) [0, 1] rfl (hs_upnd rfl) dX3_init_17 (trivial)

set_option maxHeartbeats 4000000 in
set_option maxRecDepth 100000 in
theorem c_Teller_init (l : Launch) (D : va_G) (k : Nat → ClassId) (sz : Nat) (t : Nat)  : MV l yX5_init wsX5_init ({ frames := 2, cells := 10, slots := 227, locals := 40 }) D k [.ref t] [(t, .inr (4, [.null, .null, .int 0, .int 0, .int 0]))] sz (fun (u : Nat → Nat) => True) (fun (u : Nat → Nat) => [oq4 t (u 0) (u 2) 0 0 0, oq3 (u 0) (u 1) 0 0 0 0 0, oqI k (u 1) 160 (hsz), oq5 (u 2) (u 3) (u 4) (u 5) (u 6) (u 7) (u 8) (u 9) 2 0 0 0 0 2 0 0, oqI k (u 3) 8 (hsw), oqI k (u 4) 4 (hsz), oqI k (u 5) 8 (hsz), oqI k (u 6) 8 (hsz), oqI k (u 7) 6 (hsz), oqI k (u 8) 6 (hsz), oqI k (u 9) 6 (hsz)]) := by
  refine Met.ofW (cc := cX5_init) (maxL := 1) (ret := none) hpn_X5 rfl ?_
  intro p e s m args below meth c s₁ B hml hv
  obtain ⟨rfl, hsz, hP, hK, hD0, hN⟩ := hv
  have hx := B.exec
  have hb := B.bytes
  have hr := B.returns
  have hlocks := B.notSynchronized
  have hts := atoms_spec (ws := wsX5_init) B.pre
  have hown := findClass_of_methodNamed B.named
  have hown : s.vm.findClass RX5 = some m.cls := hown
  have hin : meth.name = "<init>" := (name_of_methodNamed B.named B.method).1
  have hiX4 : ∀ w ∈ u_ws RX4 TX4 6, w ∈ wsX5_init := fun w9 hw9 => List.mem_cons_of_mem _ (igX4 w9 hw9)
  have hiX5 : ∀ w ∈ u_ws RX5 TX5 5, w ∈ wsX5_init := fun w9 hw9 => List.mem_cons_of_mem _ (igX5 w9 hw9)
  have hiX6 : ∀ w ∈ u_ws RX6 TX6 15, w ∈ wsX5_init := fun w9 hw9 => List.mem_cons_of_mem _ (igX6 w9 hw9)
  have fl12 := hts (.fieldLink RX5 12 "HalfScales$Teller" "tape" "LHalfScales$Tape;") (List.mem_cons_of_mem _ (hs_inG 1 150 rfl rfl))
  have fl21 := hts (.fieldLink RX5 21 "HalfScales$Teller" "draft" "LHalfScales$Thing;") (List.mem_cons_of_mem _ (hs_inG 1 152 rfl rfl))
  have oi1 := hts (.methodLink RX5 3 objectInit) (List.mem_cons_of_mem _ (hs_inG 1 116 rfl rfl))
  have oi2 := hts (.instanceMethod objectInit) (List.mem_cons_of_mem _ (hs_inG 1 23 rfl rfl))
  have oi3 := hts (.code objectInit ⟨#[0xb1]⟩ 1 none) (List.mem_cons_of_mem _ (hs_inG 1 24 rfl rfl))
  have cl9 := hts (.classLink RX5 9 RX4) (List.mem_cons_of_mem _ (hs_inG 1 117 rfl rfl))
  have inX4 := hts (.instantiable RX4 6) (List.mem_cons_of_mem _ (hs_inG 1 118 rfl rfl))
  have iniX4 := hts (.initialized RX4) (List.mem_cons_of_mem _ (hs_inG 1 4 rfl rfl))
  have im_X4_init := hts (.instanceMethod yX4_init) (List.mem_cons_of_mem _ (hs_inG 1 120 rfl rfl))
  have cl18 := hts (.classLink RX5 18 RX6) (List.mem_cons_of_mem _ (hs_inG 1 148 rfl rfl))
  have inX6 := hts (.instantiable RX6 15) (List.mem_cons_of_mem _ (hs_inG 1 26 rfl rfl))
  have iniX6 := hts (.initialized RX6) (List.mem_cons_of_mem _ (hs_inG 1 2 rfl rfl))
  have ml20 := hts (.methodLink RX5 20 yX6_init) (List.mem_cons_of_mem _ (hs_inG 1 149 rfl rfl))
  have im_X6_init := hts (.instanceMethod yX6_init) (List.mem_cons_of_mem _ (hs_inG 1 28 rfl rfl))
  subst hsz
  have hD := hD0.self (sz := s.heap.size)
  generalize hAe : va_A [(t, .inr (4, [.null, .null, .int 0, .int 0, .int 0]))] s.heap.size = A at hD ⊢
  have hA : ∀ q : Nat, s.heap.size ≤ q → A q := fun q h => by rw [← hAe]; exact Or.inr h
  have hS : va_S A s.heap s.heap [] := va_S.rf
  have hl := lv_entry ([.ref t]) (n := 1) (Nat.le_of_ble_eq_true rfl)
  rw [lg_entry_eq]
  generalize (lg_sl ([.ref t]) ++ List.replicate (1 - (lg_sl ([.ref t])).length) Slot.unset).toArray = ls at hl ⊢
  have hl : lv_has ls 1 [(0, .ref t)] := hl
  have hP : va_P D vwCl [(t, .inr (4, [.null, .null, .int 0, .int 0, .int 0]))] s.heap := hP
  refine lv_aload_n hx hb dX5_init_0 rfl (lv_at hl 0 rfl) ?_
  refine W.objInit hx hb hown oi1 oi2 oi3 rfl (by rw [hml]; exact hl.1) rfl dX5_init_1 (Nat.le_of_ble_eq_true rfl) (Nat.le_of_ble_eq_true rfl) ?_
  refine W.eq (g2 := F0 m 4 ls []) rfl ?_
  refine lv_aload_n hx hb dX5_init_4 rfl (lv_at hl 0 rfl) ?_
  refine va_new (ci := 3) (fs := [.null, .int 0, .int 0, .int 0, .int 0, .int 0]) (C := RX4) (T := TX4) (N := 6) hx hb hts hiX4 tyX4 tyX4_ok hown cl9 inX4 iniX4 hK hP hD hS hA rfl nfX4 (Nat.le_of_ble_eq_true rfl) (Nat.le_of_ble_eq_true rfl) dX5_init_5 (fun q_1 H hP hD hS => ?_)
  have hP : va_P D vwCl [(t, .inr (4, [.null, .null, .int 0, .int 0, .int 0])), (q_1, .inr (3, [.null, .int 0, .int 0, .int 0, .int 0, .int 0]))] H := hP
  have hD : va_D A [(t, .inr (4, [.null, .null, .int 0, .int 0, .int 0])), (q_1, .inr (3, [.null, .int 0, .int 0, .int 0, .int 0, .int 0]))] := hD
  refine W.widen (k := 1) (n := 6) (Nat.le_of_ble_eq_true rfl) (Nat.le_of_ble_eq_true rfl) ?_
  refine lv_dup hx hb dX5_init_8 rfl ?_
  refine hs_cvM (va_runIN (As := []) (rest := [.ref q_1, .ref t]) ⟨hx, hb, hml, hown, hts⟩ (c_Tape_init l D k _ q_1) ⟨(va_cnB 0 hts gX5_init_X4_init_n11 rfl rfl rfl hN.2.1 iniX4 hq_X4_init ⟨Nat.le_of_ble_eq_true rfl, Nat.le_of_ble_eq_true rfl⟩), rfl, im_X4_init⟩ (hs_preS hK hN (hs_subP (w := [_]) hP [1] rfl) (hD.sub (ws' := [_]) [1] (hs_upnd rfl) rfl)) rfl rfl hl.1 rfl (lv_room (Nat.le_of_ble_eq_true rfl)) dX5_init_9 ⟨Nat.le_of_ble_eq_true rfl, Nat.le_of_ble_eq_true rfl⟩) hP hD hS hA [true, false] [_] [_] rfl [0] rfl [0, 1] (fun u_4 => [_, _]) (fun _ => rfl) (hs_upnd rfl) [true, false, false] (fun u_4 => [_, _, _]) (fun _ => rfl) (fun u_4 H locs hw_3 hP hD hS => ?_)
  refine W.widen (k := 2) (n := 166) (Nat.le_of_ble_eq_true rfl) (Nat.le_of_ble_eq_true rfl) ?_
  refine va_putF (D := D) (ci := 4) (v := .ref q_1) (ty := (.object "HalfScales$Tape")) (C := RX5) (T := TX5) (N := 5) hx hb hts hiX5 tyX5 tyX5_ok nmX5 hown hK hP hD hS 0 rfl rfl 0 (Nat.le_of_ble_eq_true rfl) fl12 (fun _ h9 => h9) rfl hin rfl (by decide +kernel) rfl rfl (Nat.le_of_ble_eq_true rfl) dX5_init_12 (fun H locs hP hD hS => ?_)
  have hP : va_P D vwCl [(t, .inr (4, [.ref q_1, .null, .int 0, .int 0, .int 0])), _, _] H := hP
  have hD : va_D A [(t, .inr (4, [.ref q_1, .null, .int 0, .int 0, .int 0])), _, _] := hD
  refine lv_aload_n hx hb dX5_init_15 rfl (lv_at hl 0 rfl) ?_
  refine va_new (ci := 5) (fs := [.null, .null, .null, .null, .null, .null, .null, .int 0, .int 0, .int 0, .int 0, .int 0, .int 0, .int 0, .int 0]) (C := RX6) (T := TX6) (N := 15) hx hb hts hiX6 tyX6 tyX6_ok hown cl18 inX6 iniX6 hK hP hD hS hA rfl nfX6 (Nat.le_of_ble_eq_true rfl) (Nat.le_of_ble_eq_true rfl) dX5_init_16 (fun q_5 H hP hD hS => ?_)
  have hP : va_P D vwCl [(t, .inr (4, [.ref q_1, .null, .int 0, .int 0, .int 0])), oq3 q_1 (u_4 0) 0 0 0 0 0, oqI k (u_4 0) 160 (hsz), (q_5, .inr (5, [.null, .null, .null, .null, .null, .null, .null, .int 0, .int 0, .int 0, .int 0, .int 0, .int 0, .int 0, .int 0]))] H := hP
  have hD : va_D A [(t, .inr (4, [.ref q_1, .null, .int 0, .int 0, .int 0])), oq3 q_1 (u_4 0) 0 0 0 0 0, oqI k (u_4 0) 160 (hsz), (q_5, .inr (5, [.null, .null, .null, .null, .null, .null, .null, .int 0, .int 0, .int 0, .int 0, .int 0, .int 0, .int 0, .int 0]))] := hD
  refine W.widen (k := 3) (n := 181) (Nat.le_of_ble_eq_true rfl) (Nat.le_of_ble_eq_true rfl) ?_
  refine lv_dup hx hb dX5_init_19 rfl ?_
  refine hs_cvM (va_runI (As := []) (rest := [.ref q_5, .ref t]) ⟨hx, hb, hml, hown, hts⟩ (c_Thing_init l D k _ q_5) (cwI 0 hts gX5_init_X6_init rfl rfl rfl iniX6 ml20 im_X6_init rfl hq_X6_init ⟨Nat.le_of_ble_eq_true rfl, Nat.le_of_ble_eq_true rfl⟩) (hs_preS hK hN (hs_subP (w := [_]) hP [3] rfl) (hD.sub (ws' := [_]) [3] (hs_upnd rfl) rfl)) rfl rfl hl.1 rfl (lv_room (Nat.le_of_ble_eq_true rfl)) dX5_init_20 ⟨Nat.le_of_ble_eq_true rfl, Nat.le_of_ble_eq_true rfl⟩) hP hD hS hA [true, true, true, false] [_, _, _] [_] rfl [0] rfl [0, 1, 2, 3, 4, 5, 6, 7] (fun u_8 => [_, _, _, _, _, _, _, _]) (fun _ => rfl) (hs_upnd rfl) [true, true, true, false, false, false, false, false, false, false, false] (fun u_8 => [_, _, _, _, _, _, _, _, _, _, _]) (fun _ => rfl) (fun u_8 H locs hw_7 hP hD hS => ?_)
  refine W.widen (k := 10) (n := 227) (Nat.le_of_ble_eq_true rfl) (Nat.le_of_ble_eq_true rfl) ?_
  refine va_putF (D := D) (ci := 4) (v := .ref q_5) (ty := (.object "HalfScales$Thing")) (C := RX5) (T := TX5) (N := 5) hx hb hts hiX5 tyX5 tyX5_ok nmX5 hown hK hP hD hS 0 rfl rfl 1 (Nat.le_of_ble_eq_true rfl) fl21 (fun _ h9 => h9) rfl hin rfl (by decide +kernel) rfl rfl (Nat.le_of_ble_eq_true rfl) dX5_init_23 (fun H locs hP hD hS => ?_)
  have hP : va_P D vwCl [oq4 t q_1 q_5 0 0 0, _, _, _, _, _, _, _, _, _, _] H := hP
  have hD : va_D A [oq4 t q_1 q_5 0 0 0, _, _, _, _, _, _, _, _, _, _] := hD
  refine W.widen (k := 10) (n := 227) (Nat.le_of_ble_eq_true rfl) (Nat.le_of_ble_eq_true rfl) ?_
  exact hs_vret hx hb hr hlocks hK hP hD hS (fun i => ([q_1, (u_4 0), q_5, (u_8 0), (u_8 1), (u_8 2), (u_8 3), (u_8 4), (u_8 5), (u_8 6)] : List Nat).getD i 0) [0, 1, 2, 3, 4, 5, 6, 7, 8, 9, 10] rfl (hs_upnd rfl) dX5_init_26 (trivial)

set_option maxHeartbeats 4000000 in
set_option maxRecDepth 100000 in
theorem c_HalfScales_init (l : Launch) (D : va_G) (k : Nat → ClassId) (sz : Nat) (t : Nat)  : MV l yX7_init wsX7_init ({ frames := 3, cells := 59, slots := 702, locals := 60 }) D k [.ref t] [(t, .inr (6, [.null, .null, .null, .null, .null, .null, .null, .null, .int 0, .int 0]))] sz (fun (u : Nat → Nat) => True) (fun (u : Nat → Nat) => [oq6 t (u 0) (u 8) (u 16) (u 17) (u 18) (u 29) (u 32) (u 34) 0 0, oq5 (u 0) (u 1) (u 2) (u 3) (u 4) (u 5) (u 6) (u 7) 2 0 0 0 0 2 0 0, oqI k (u 1) 8 (hsw), oqI k (u 2) 4 (hsz), oqI k (u 3) 8 (hsz), oqI k (u 4) 8 (hsz), oqI k (u 5) 6 (hsz), oqI k (u 6) 6 (hsz), oqI k (u 7) 6 (hsz), oq5 (u 8) (u 9) (u 10) (u 11) (u 12) (u 13) (u 14) (u 15) 2 0 0 0 0 2 0 0, oqI k (u 9) 8 (hsw), oqI k (u 10) 4 (hsz), oqI k (u 11) 8 (hsz), oqI k (u 12) 8 (hsz), oqI k (u 13) 6 (hsz), oqI k (u 14) 6 (hsz), oqI k (u 15) 6 (hsz), ((u 16), .inl (k 4, 2, .inr (.inr (.inr (.inr (va_up (va_up (fun _ => none) 0 (some (u 35))) 1 (some (u 43)))))))), oqB k (u 17) 2 (hsz), oq4 (u 18) (u 19) (u 21) 0 0 0, oq3 (u 19) (u 20) 0 0 0 0 0, oqI k (u 20) 160 (hsz), oq5 (u 21) (u 22) (u 23) (u 24) (u 25) (u 26) (u 27) (u 28) 2 0 0 0 0 2 0 0, oqI k (u 22) 8 (hsw), oqI k (u 23) 4 (hsz), oqI k (u 24) 8 (hsz), oqI k (u 25) 8 (hsz), oqI k (u 26) 6 (hsz), oqI k (u 27) 6 (hsz), oqI k (u 28) 6 (hsz), oq1 (u 29) (u 30) (u 31) 0, oqI k (u 30) 5 (hsz), oqI k (u 31) 32 (hsz), oq0 (u 32) (u 33), oqL k (u 33) 5 (hszl), ((u 34), .inl (k 3, 4, .inr (.inr (.inr (.inr (va_up (va_up (va_up (va_up (fun _ => none) 0 (some (u 51))) 1 (some (u 53))) 2 (some (u 55))) 3 (some (u 57)))))))), oq5 (u 35) (u 36) (u 37) (u 38) (u 39) (u 40) (u 41) (u 42) 2 0 0 0 0 2 0 0, oqI k (u 36) 8 (hsw), oqI k (u 37) 4 (hsz), oqI k (u 38) 8 (hsz), oqI k (u 39) 8 (hsz), oqI k (u 40) 6 (hsz), oqI k (u 41) 6 (hsz), oqI k (u 42) 6 (hsz), oq5 (u 43) (u 44) (u 45) (u 46) (u 47) (u 48) (u 49) (u 50) 2 0 0 0 0 2 0 0, oqI k (u 44) 8 (hsw), oqI k (u 45) 4 (hsz), oqI k (u 46) 8 (hsz), oqI k (u 47) 8 (hsz), oqI k (u 48) 6 (hsz), oqI k (u 49) 6 (hsz), oqI k (u 50) 6 (hsz), oq2 (u 51) (u 52) (-1) 0, oqI k (u 52) 40 (hsz), oq2 (u 53) (u 54) (-1) 0, oqI k (u 54) 40 (hsz), oq2 (u 55) (u 56) (-1) 0, oqI k (u 56) 40 (hsz), oq2 (u 57) (u 58) (-1) 0, oqI k (u 58) 40 (hsz)]) := by
  refine Met.ofW (cc := cX7_init) (maxL := 2) (ret := none) hpn_X7 rfl ?_
  intro p e s m args below meth c s₁ B hml hv
  obtain ⟨rfl, hsz, hP, hK, hD0, hN⟩ := hv
  have hx := B.exec
  have hb := B.bytes
  have hr := B.returns
  have hlocks := B.notSynchronized
  have hts := atoms_spec (ws := wsX7_init) B.pre
  have hown := findClass_of_methodNamed B.named
  have hown : s.vm.findClass RX7 = some m.cls := hown
  have hin : meth.name = "<init>" := (name_of_methodNamed B.named B.method).1
  have hiX0 : ∀ w ∈ u_ws RX0 TX0 1, w ∈ wsX7_init := fun w9 hw9 => List.mem_cons_of_mem _ (igX0 w9 hw9)
  have hiX2 : ∀ w ∈ u_ws RX2 TX2 3, w ∈ wsX7_init := fun w9 hw9 => List.mem_cons_of_mem _ (igX2 w9 hw9)
  have hiX3 : ∀ w ∈ u_ws RX3 TX3 3, w ∈ wsX7_init := fun w9 hw9 => List.mem_cons_of_mem _ (igX3 w9 hw9)
  have hiX5 : ∀ w ∈ u_ws RX5 TX5 5, w ∈ wsX7_init := fun w9 hw9 => List.mem_cons_of_mem _ (igX5 w9 hw9)
  have hiX6 : ∀ w ∈ u_ws RX6 TX6 15, w ∈ wsX7_init := fun w9 hw9 => List.mem_cons_of_mem _ (igX6 w9 hw9)
  have hiX7 : ∀ w ∈ u_ws RX7 TX7 10, w ∈ wsX7_init := fun w9 hw9 => List.mem_cons_of_mem _ (igX7 w9 hw9)
  have fl10 := hts (.fieldLink RX7 10 "HalfScales" "now" "LHalfScales$Thing;") (List.mem_cons_of_mem _ (hs_inG 1 215 rfl rfl))
  have fl16 := hts (.fieldLink RX7 16 "HalfScales" "trial" "LHalfScales$Thing;") (List.mem_cons_of_mem _ (hs_inG 1 216 rfl rfl))
  have fl19 := hts (.fieldLink RX7 19 "HalfScales" "images" "[LHalfScales$Thing;") (List.mem_cons_of_mem _ (hs_inG 1 217 rfl rfl))
  have fl23 := hts (.fieldLink RX7 23 "HalfScales" "imageThere" "[Z") (List.mem_cons_of_mem _ (hs_inG 1 218 rfl rfl))
  have fl30 := hts (.fieldLink RX7 30 "HalfScales" "teller" "LHalfScales$Teller;") (List.mem_cons_of_mem _ (hs_inG 1 219 rfl rfl))
  have fl37 := hts (.fieldLink RX7 37 "HalfScales" "ranks" "LHalfScales$Ranks;") (List.mem_cons_of_mem _ (hs_inG 1 220 rfl rfl))
  have fl44 := hts (.fieldLink RX7 44 "HalfScales" "court" "LHalfScales$Court;") (List.mem_cons_of_mem _ (hs_inG 1 221 rfl rfl))
  have fl50 := hts (.fieldLink RX7 50 "HalfScales" "sheets" "[LHalfScales$Sheet;") (List.mem_cons_of_mem _ (hs_inG 1 222 rfl rfl))
  have oi1 := hts (.methodLink RX7 1 objectInit) (List.mem_cons_of_mem _ (hs_inG 1 22 rfl rfl))
  have oi2 := hts (.instanceMethod objectInit) (List.mem_cons_of_mem _ (hs_inG 1 23 rfl rfl))
  have oi3 := hts (.code objectInit ⟨#[0xb1]⟩ 1 none) (List.mem_cons_of_mem _ (hs_inG 1 24 rfl rfl))
  have cl7 := hts (.classLink RX7 7 RX6) (List.mem_cons_of_mem _ (hs_inG 1 25 rfl rfl))
  have inX6 := hts (.instantiable RX6 15) (List.mem_cons_of_mem _ (hs_inG 1 26 rfl rfl))
  have iniX6 := hts (.initialized RX6) (List.mem_cons_of_mem _ (hs_inG 1 2 rfl rfl))
  have ml9 := hts (.methodLink RX7 9 yX6_init) (List.mem_cons_of_mem _ (hs_inG 1 27 rfl rfl))
  have im_X6_init := hts (.instanceMethod yX6_init) (List.mem_cons_of_mem _ (hs_inG 1 28 rfl rfl))
  have acZ := hts (.arrayClass .boolean) (List.mem_cons_of_mem _ (hs_inG 1 147 rfl rfl))
  have cl27 := hts (.classLink RX7 27 RX5) (List.mem_cons_of_mem _ (hs_inG 1 111 rfl rfl))
  have inX5 := hts (.instantiable RX5 5) (List.mem_cons_of_mem _ (hs_inG 1 112 rfl rfl))
  have iniX5 := hts (.initialized RX5) (List.mem_cons_of_mem _ (hs_inG 1 3 rfl rfl))
  have im_X5_init := hts (.instanceMethod yX5_init) (List.mem_cons_of_mem _ (hs_inG 1 114 rfl rfl))
  have cl34 := hts (.classLink RX7 34 RX2) (List.mem_cons_of_mem _ (hs_inG 1 170 rfl rfl))
  have inX2 := hts (.instantiable RX2 3) (List.mem_cons_of_mem _ (hs_inG 1 171 rfl rfl))
  have iniX2 := hts (.initialized RX2) (List.mem_cons_of_mem _ (hs_inG 1 5 rfl rfl))
  have im_X2_init := hts (.instanceMethod yX2_init) (List.mem_cons_of_mem _ (hs_inG 1 173 rfl rfl))
  have cl41 := hts (.classLink RX7 41 RX0) (List.mem_cons_of_mem _ (hs_inG 1 186 rfl rfl))
  have inX0 := hts (.instantiable RX0 1) (List.mem_cons_of_mem _ (hs_inG 1 187 rfl rfl))
  have iniX0 := hts (.initialized RX0) (List.mem_cons_of_mem _ (hs_inG 1 6 rfl rfl))
  have im_X0_init := hts (.instanceMethod yX0_init) (List.mem_cons_of_mem _ (hs_inG 1 189 rfl rfl))
  have cl48 := hts (.classLink RX7 48 RX3) (List.mem_cons_of_mem _ (hs_inG 1 197 rfl rfl))
  have inX3 := hts (.instantiable RX3 3) (List.mem_cons_of_mem _ (hs_inG 1 199 rfl rfl))
  have iniX3 := hts (.initialized RX3) (List.mem_cons_of_mem _ (hs_inG 1 7 rfl rfl))
  have im_X3_init := hts (.instanceMethod yX3_init) (List.mem_cons_of_mem _ (hs_inG 1 201 rfl rfl))
  subst hsz
  have hD := hD0.self (sz := s.heap.size)
  generalize hAe : va_A [(t, .inr (6, [.null, .null, .null, .null, .null, .null, .null, .null, .int 0, .int 0]))] s.heap.size = A at hD ⊢
  have hA : ∀ q : Nat, s.heap.size ≤ q → A q := fun q h => by rw [← hAe]; exact Or.inr h
  have hS : va_S A s.heap s.heap [] := va_S.rf
  have hl := lv_entry ([.ref t]) (n := 2) (Nat.le_of_ble_eq_true rfl)
  rw [lg_entry_eq]
  generalize (lg_sl ([.ref t]) ++ List.replicate (2 - (lg_sl ([.ref t])).length) Slot.unset).toArray = ls at hl ⊢
  have hl : lv_has ls 2 [(0, .ref t)] := hl
  have hP : va_P D vwCl [(t, .inr (6, [.null, .null, .null, .null, .null, .null, .null, .null, .int 0, .int 0]))] s.heap := hP
  refine lv_aload_n hx hb dX7_init_0 rfl (lv_at hl 0 rfl) ?_
  refine W.objInit hx hb hown oi1 oi2 oi3 rfl (by rw [hml]; exact hl.1) rfl dX7_init_1 (Nat.le_of_ble_eq_true rfl) (Nat.le_of_ble_eq_true rfl) ?_
  refine W.eq (g2 := F0 m 4 ls []) rfl ?_
  refine lv_aload_n hx hb dX7_init_4 rfl (lv_at hl 0 rfl) ?_
  refine va_new (ci := 5) (fs := [.null, .null, .null, .null, .null, .null, .null, .int 0, .int 0, .int 0, .int 0, .int 0, .int 0, .int 0, .int 0]) (C := RX6) (T := TX6) (N := 15) hx hb hts hiX6 tyX6 tyX6_ok hown cl7 inX6 iniX6 hK hP hD hS hA rfl nfX6 (Nat.le_of_ble_eq_true rfl) (Nat.le_of_ble_eq_true rfl) dX7_init_5 (fun q_1 H hP hD hS => ?_)
  have hP : va_P D vwCl [(t, .inr (6, [.null, .null, .null, .null, .null, .null, .null, .null, .int 0, .int 0])), (q_1, .inr (5, [.null, .null, .null, .null, .null, .null, .null, .int 0, .int 0, .int 0, .int 0, .int 0, .int 0, .int 0, .int 0]))] H := hP
  have hD : va_D A [(t, .inr (6, [.null, .null, .null, .null, .null, .null, .null, .null, .int 0, .int 0])), (q_1, .inr (5, [.null, .null, .null, .null, .null, .null, .null, .int 0, .int 0, .int 0, .int 0, .int 0, .int 0, .int 0, .int 0]))] := hD
  refine W.widen (k := 1) (n := 15) (Nat.le_of_ble_eq_true rfl) (Nat.le_of_ble_eq_true rfl) ?_
  refine lv_dup hx hb dX7_init_8 rfl ?_
  refine hs_cvM (va_runI (As := []) (rest := [.ref q_1, .ref t]) ⟨hx, hb, hml, hown, hts⟩ (c_Thing_init l D k _ q_1) (cwI 0 hts gX7_init_X6_init rfl rfl rfl iniX6 ml9 im_X6_init rfl hq_X6_init ⟨Nat.le_of_ble_eq_true rfl, Nat.le_of_ble_eq_true rfl⟩) (hs_preS hK hN (hs_subP (w := [_]) hP [1] rfl) (hD.sub (ws' := [_]) [1] (hs_upnd rfl) rfl)) rfl rfl hl.1 rfl (lv_room (Nat.le_of_ble_eq_true rfl)) dX7_init_9 ⟨Nat.le_of_ble_eq_true rfl, Nat.le_of_ble_eq_true rfl⟩) hP hD hS hA [true, false] [_] [_] rfl [0] rfl [0, 1, 2, 3, 4, 5, 6, 7] (fun u_4 => [_, _, _, _, _, _, _, _]) (fun _ => rfl) (hs_upnd rfl) [true, false, false, false, false, false, false, false, false] (fun u_4 => [_, _, _, _, _, _, _, _, _]) (fun _ => rfl) (fun u_4 H locs hw_3 hP hD hS => ?_)
  refine W.widen (k := 8) (n := 61) (Nat.le_of_ble_eq_true rfl) (Nat.le_of_ble_eq_true rfl) ?_
  refine va_putF (D := D) (ci := 6) (v := .ref q_1) (ty := (.object "HalfScales$Thing")) (C := RX7) (T := TX7) (N := 10) hx hb hts hiX7 tyX7 tyX7_ok nmX7 hown hK hP hD hS 0 rfl rfl 0 (Nat.le_of_ble_eq_true rfl) fl10 (fun _ h9 => h9) rfl hin rfl (by decide +kernel) rfl rfl (Nat.le_of_ble_eq_true rfl) dX7_init_12 (fun H locs hP hD hS => ?_)
  have hP : va_P D vwCl [(t, .inr (6, [.ref q_1, .null, .null, .null, .null, .null, .null, .null, .int 0, .int 0])), _, _, _, _, _, _, _, _] H := hP
  have hD : va_D A [(t, .inr (6, [.ref q_1, .null, .null, .null, .null, .null, .null, .null, .int 0, .int 0])), _, _, _, _, _, _, _, _] := hD
  refine lv_aload_n hx hb dX7_init_15 rfl (lv_at hl 0 rfl) ?_
  refine va_new (ci := 5) (fs := [.null, .null, .null, .null, .null, .null, .null, .int 0, .int 0, .int 0, .int 0, .int 0, .int 0, .int 0, .int 0]) (C := RX6) (T := TX6) (N := 15) hx hb hts hiX6 tyX6 tyX6_ok hown cl7 inX6 iniX6 hK hP hD hS hA rfl nfX6 (Nat.le_of_ble_eq_true rfl) (Nat.le_of_ble_eq_true rfl) dX7_init_16 (fun q_5 H hP hD hS => ?_)
  have hP : va_P D vwCl [(t, .inr (6, [.ref q_1, .null, .null, .null, .null, .null, .null, .null, .int 0, .int 0])), oq5 q_1 (u_4 0) (u_4 1) (u_4 2) (u_4 3) (u_4 4) (u_4 5) (u_4 6) 2 0 0 0 0 2 0 0, oqI k (u_4 0) 8 (hsw), oqI k (u_4 1) 4 (hsz), oqI k (u_4 2) 8 (hsz), oqI k (u_4 3) 8 (hsz), oqI k (u_4 4) 6 (hsz), oqI k (u_4 5) 6 (hsz), oqI k (u_4 6) 6 (hsz), (q_5, .inr (5, [.null, .null, .null, .null, .null, .null, .null, .int 0, .int 0, .int 0, .int 0, .int 0, .int 0, .int 0, .int 0]))] H := hP
  have hD : va_D A [(t, .inr (6, [.ref q_1, .null, .null, .null, .null, .null, .null, .null, .int 0, .int 0])), oq5 q_1 (u_4 0) (u_4 1) (u_4 2) (u_4 3) (u_4 4) (u_4 5) (u_4 6) 2 0 0 0 0 2 0 0, oqI k (u_4 0) 8 (hsw), oqI k (u_4 1) 4 (hsz), oqI k (u_4 2) 8 (hsz), oqI k (u_4 3) 8 (hsz), oqI k (u_4 4) 6 (hsz), oqI k (u_4 5) 6 (hsz), oqI k (u_4 6) 6 (hsz), (q_5, .inr (5, [.null, .null, .null, .null, .null, .null, .null, .int 0, .int 0, .int 0, .int 0, .int 0, .int 0, .int 0, .int 0]))] := hD
  refine W.widen (k := 9) (n := 76) (Nat.le_of_ble_eq_true rfl) (Nat.le_of_ble_eq_true rfl) ?_
  refine lv_dup hx hb dX7_init_19 rfl ?_
  refine hs_cvM (va_runI (As := []) (rest := [.ref q_5, .ref t]) ⟨hx, hb, hml, hown, hts⟩ (c_Thing_init l D k _ q_5) (cwI 0 hts gX7_init_X6_init rfl rfl rfl iniX6 ml9 im_X6_init rfl hq_X6_init ⟨Nat.le_of_ble_eq_true rfl, Nat.le_of_ble_eq_true rfl⟩) (hs_preS hK hN (hs_subP (w := [_]) hP [9] rfl) (hD.sub (ws' := [_]) [9] (hs_upnd rfl) rfl)) rfl rfl hl.1 rfl (lv_room (Nat.le_of_ble_eq_true rfl)) dX7_init_20 ⟨Nat.le_of_ble_eq_true rfl, Nat.le_of_ble_eq_true rfl⟩) hP hD hS hA [true, true, true, true, true, true, true, true, true, false] [_, _, _, _, _, _, _, _, _] [_] rfl [0] rfl [0, 1, 2, 3, 4, 5, 6, 7] (fun u_8 => [_, _, _, _, _, _, _, _]) (fun _ => rfl) (hs_upnd rfl) [true, true, true, true, true, true, true, true, true, false, false, false, false, false, false, false, false] (fun u_8 => [_, _, _, _, _, _, _, _, _, _, _, _, _, _, _, _, _]) (fun _ => rfl) (fun u_8 H locs hw_7 hP hD hS => ?_)
  refine W.widen (k := 16) (n := 122) (Nat.le_of_ble_eq_true rfl) (Nat.le_of_ble_eq_true rfl) ?_
  refine va_putF (D := D) (ci := 6) (v := .ref q_5) (ty := (.object "HalfScales$Thing")) (C := RX7) (T := TX7) (N := 10) hx hb hts hiX7 tyX7 tyX7_ok nmX7 hown hK hP hD hS 0 rfl rfl 1 (Nat.le_of_ble_eq_true rfl) fl16 (fun _ h9 => h9) rfl hin rfl (by decide +kernel) rfl rfl (Nat.le_of_ble_eq_true rfl) dX7_init_23 (fun H locs hP hD hS => ?_)
  have hP : va_P D vwCl [(t, .inr (6, [.ref q_1, .ref q_5, .null, .null, .null, .null, .null, .null, .int 0, .int 0])), _, _, _, _, _, _, _, _, _, _, _, _, _, _, _, _] H := hP
  have hD : va_D A [(t, .inr (6, [.ref q_1, .ref q_5, .null, .null, .null, .null, .null, .null, .int 0, .int 0])), _, _, _, _, _, _, _, _, _, _, _, _, _, _, _, _] := hD
  refine lv_aload_n hx hb dX7_init_26 rfl (lv_at hl 0 rfl) ?_
  refine lv_iconst (v := 2) hx hb dX7_init_27 hki_2 ?_
  refine va_newq (C := RX6) (N' := 2) hx hb hown cl7 hN.2.2.2.2.2.2.2.2.2.1 hK hP hD hS hA (by decide) (by decide) (by decide) (Nat.le_of_ble_eq_true rfl) (Nat.le_of_ble_eq_true rfl) dX7_init_28 (fun q_9 cA H hK2 hP hD hS => ?_)
  obtain rfl : cA = k 4 := hs_cAT hK2
  have hP : va_P D vwCl [(t, .inr (6, [.ref q_1, .ref q_5, .null, .null, .null, .null, .null, .null, .int 0, .int 0])), oq5 q_1 (u_4 0) (u_4 1) (u_4 2) (u_4 3) (u_4 4) (u_4 5) (u_4 6) 2 0 0 0 0 2 0 0, oqI k (u_4 0) 8 (hsw), oqI k (u_4 1) 4 (hsz), oqI k (u_4 2) 8 (hsz), oqI k (u_4 3) 8 (hsz), oqI k (u_4 4) 6 (hsz), oqI k (u_4 5) 6 (hsz), oqI k (u_4 6) 6 (hsz), oq5 q_5 (u_8 0) (u_8 1) (u_8 2) (u_8 3) (u_8 4) (u_8 5) (u_8 6) 2 0 0 0 0 2 0 0, oqI k (u_8 0) 8 (hsw), oqI k (u_8 1) 4 (hsz), oqI k (u_8 2) 8 (hsz), oqI k (u_8 3) 8 (hsz), oqI k (u_8 4) 6 (hsz), oqI k (u_8 5) 6 (hsz), oqI k (u_8 6) 6 (hsz), (q_9, .inl (k 4, 2, .inr (.inr (.inr (.inr (fun _ => none))))))] H := hP
  have hD : va_D A [(t, .inr (6, [.ref q_1, .ref q_5, .null, .null, .null, .null, .null, .null, .int 0, .int 0])), oq5 q_1 (u_4 0) (u_4 1) (u_4 2) (u_4 3) (u_4 4) (u_4 5) (u_4 6) 2 0 0 0 0 2 0 0, oqI k (u_4 0) 8 (hsw), oqI k (u_4 1) 4 (hsz), oqI k (u_4 2) 8 (hsz), oqI k (u_4 3) 8 (hsz), oqI k (u_4 4) 6 (hsz), oqI k (u_4 5) 6 (hsz), oqI k (u_4 6) 6 (hsz), oq5 q_5 (u_8 0) (u_8 1) (u_8 2) (u_8 3) (u_8 4) (u_8 5) (u_8 6) 2 0 0 0 0 2 0 0, oqI k (u_8 0) 8 (hsw), oqI k (u_8 1) 4 (hsz), oqI k (u_8 2) 8 (hsz), oqI k (u_8 3) 8 (hsz), oqI k (u_8 4) 6 (hsz), oqI k (u_8 5) 6 (hsz), oqI k (u_8 6) 6 (hsz), (q_9, .inl (k 4, 2, .inr (.inr (.inr (.inr (fun _ => none))))))] := hD
  refine W.widen (k := 17) (n := 124) (Nat.le_of_ble_eq_true rfl) (Nat.le_of_ble_eq_true rfl) ?_
  refine va_putF (D := D) (ci := 6) (v := .ref q_9) (ty := (.array (.object "HalfScales$Thing"))) (C := RX7) (T := TX7) (N := 10) hx hb hts hiX7 tyX7 tyX7_ok nmX7 hown hK hP hD hS 0 rfl rfl 2 (Nat.le_of_ble_eq_true rfl) fl19 (fun _ h9 => h9) rfl hin rfl (by decide +kernel) rfl rfl (Nat.le_of_ble_eq_true rfl) dX7_init_31 (fun H locs hP hD hS => ?_)
  have hP : va_P D vwCl [(t, .inr (6, [.ref q_1, .ref q_5, .ref q_9, .null, .null, .null, .null, .null, .int 0, .int 0])), _, _, _, _, _, _, _, _, _, _, _, _, _, _, _, _, _] H := hP
  have hD : va_D A [(t, .inr (6, [.ref q_1, .ref q_5, .ref q_9, .null, .null, .null, .null, .null, .int 0, .int 0])), _, _, _, _, _, _, _, _, _, _, _, _, _, _, _, _, _] := hD
  refine lv_aload_n hx hb dX7_init_34 rfl (lv_at hl 0 rfl) ?_
  refine lv_iconst (v := 2) hx hb dX7_init_35 hki_2 ?_
  refine va_newa (atype := .boolean) (ty := .boolean) (N' := 2) (a0 := (2, .inl hsz)) hx hb acZ rfl hK hP hD hS hA (fun _ => rfl) (by decide) (by decide) (by decide) (Nat.le_of_ble_eq_true rfl) (Nat.le_of_ble_eq_true rfl) dX7_init_36 (fun q_10 cA H hK2 hP hD hS => ?_)
  obtain rfl : cA = k 2 := hs_cAZ hK2
  have hP : va_P D vwCl [(t, .inr (6, [.ref q_1, .ref q_5, .ref q_9, .null, .null, .null, .null, .null, .int 0, .int 0])), oq5 q_1 (u_4 0) (u_4 1) (u_4 2) (u_4 3) (u_4 4) (u_4 5) (u_4 6) 2 0 0 0 0 2 0 0, oqI k (u_4 0) 8 (hsw), oqI k (u_4 1) 4 (hsz), oqI k (u_4 2) 8 (hsz), oqI k (u_4 3) 8 (hsz), oqI k (u_4 4) 6 (hsz), oqI k (u_4 5) 6 (hsz), oqI k (u_4 6) 6 (hsz), oq5 q_5 (u_8 0) (u_8 1) (u_8 2) (u_8 3) (u_8 4) (u_8 5) (u_8 6) 2 0 0 0 0 2 0 0, oqI k (u_8 0) 8 (hsw), oqI k (u_8 1) 4 (hsz), oqI k (u_8 2) 8 (hsz), oqI k (u_8 3) 8 (hsz), oqI k (u_8 4) 6 (hsz), oqI k (u_8 5) 6 (hsz), oqI k (u_8 6) 6 (hsz), (q_9, .inl (k 4, 2, .inr (.inr (.inr (.inr (fun _ => none)))))), oqB k q_10 2 (hsz)] H := hP
  have hD : va_D A [(t, .inr (6, [.ref q_1, .ref q_5, .ref q_9, .null, .null, .null, .null, .null, .int 0, .int 0])), oq5 q_1 (u_4 0) (u_4 1) (u_4 2) (u_4 3) (u_4 4) (u_4 5) (u_4 6) 2 0 0 0 0 2 0 0, oqI k (u_4 0) 8 (hsw), oqI k (u_4 1) 4 (hsz), oqI k (u_4 2) 8 (hsz), oqI k (u_4 3) 8 (hsz), oqI k (u_4 4) 6 (hsz), oqI k (u_4 5) 6 (hsz), oqI k (u_4 6) 6 (hsz), oq5 q_5 (u_8 0) (u_8 1) (u_8 2) (u_8 3) (u_8 4) (u_8 5) (u_8 6) 2 0 0 0 0 2 0 0, oqI k (u_8 0) 8 (hsw), oqI k (u_8 1) 4 (hsz), oqI k (u_8 2) 8 (hsz), oqI k (u_8 3) 8 (hsz), oqI k (u_8 4) 6 (hsz), oqI k (u_8 5) 6 (hsz), oqI k (u_8 6) 6 (hsz), (q_9, .inl (k 4, 2, .inr (.inr (.inr (.inr (fun _ => none)))))), oqB k q_10 2 (hsz)] := hD
  refine W.widen (k := 18) (n := 126) (Nat.le_of_ble_eq_true rfl) (Nat.le_of_ble_eq_true rfl) ?_
  refine va_putF (D := D) (ci := 6) (v := .ref q_10) (ty := (.array .boolean)) (C := RX7) (T := TX7) (N := 10) hx hb hts hiX7 tyX7 tyX7_ok nmX7 hown hK hP hD hS 0 rfl rfl 3 (Nat.le_of_ble_eq_true rfl) fl23 (fun _ h9 => h9) rfl hin rfl (by decide +kernel) rfl rfl (Nat.le_of_ble_eq_true rfl) dX7_init_38 (fun H locs hP hD hS => ?_)
  have hP : va_P D vwCl [(t, .inr (6, [.ref q_1, .ref q_5, .ref q_9, .ref q_10, .null, .null, .null, .null, .int 0, .int 0])), _, _, _, _, _, _, _, _, _, _, _, _, _, _, _, _, _, _] H := hP
  have hD : va_D A [(t, .inr (6, [.ref q_1, .ref q_5, .ref q_9, .ref q_10, .null, .null, .null, .null, .int 0, .int 0])), _, _, _, _, _, _, _, _, _, _, _, _, _, _, _, _, _, _] := hD
  refine lv_aload_n hx hb dX7_init_41 rfl (lv_at hl 0 rfl) ?_
  refine va_new (ci := 4) (fs := [.null, .null, .int 0, .int 0, .int 0]) (C := RX5) (T := TX5) (N := 5) hx hb hts hiX5 tyX5 tyX5_ok hown cl27 inX5 iniX5 hK hP hD hS hA rfl nfX5 (Nat.le_of_ble_eq_true rfl) (Nat.le_of_ble_eq_true rfl) dX7_init_42 (fun q_11 H hP hD hS => ?_)
  have hP : va_P D vwCl [(t, .inr (6, [.ref q_1, .ref q_5, .ref q_9, .ref q_10, .null, .null, .null, .null, .int 0, .int 0])), oq5 q_1 (u_4 0) (u_4 1) (u_4 2) (u_4 3) (u_4 4) (u_4 5) (u_4 6) 2 0 0 0 0 2 0 0, oqI k (u_4 0) 8 (hsw), oqI k (u_4 1) 4 (hsz), oqI k (u_4 2) 8 (hsz), oqI k (u_4 3) 8 (hsz), oqI k (u_4 4) 6 (hsz), oqI k (u_4 5) 6 (hsz), oqI k (u_4 6) 6 (hsz), oq5 q_5 (u_8 0) (u_8 1) (u_8 2) (u_8 3) (u_8 4) (u_8 5) (u_8 6) 2 0 0 0 0 2 0 0, oqI k (u_8 0) 8 (hsw), oqI k (u_8 1) 4 (hsz), oqI k (u_8 2) 8 (hsz), oqI k (u_8 3) 8 (hsz), oqI k (u_8 4) 6 (hsz), oqI k (u_8 5) 6 (hsz), oqI k (u_8 6) 6 (hsz), (q_9, .inl (k 4, 2, .inr (.inr (.inr (.inr (fun _ => none)))))), oqB k q_10 2 (hsz), (q_11, .inr (4, [.null, .null, .int 0, .int 0, .int 0]))] H := hP
  have hD : va_D A [(t, .inr (6, [.ref q_1, .ref q_5, .ref q_9, .ref q_10, .null, .null, .null, .null, .int 0, .int 0])), oq5 q_1 (u_4 0) (u_4 1) (u_4 2) (u_4 3) (u_4 4) (u_4 5) (u_4 6) 2 0 0 0 0 2 0 0, oqI k (u_4 0) 8 (hsw), oqI k (u_4 1) 4 (hsz), oqI k (u_4 2) 8 (hsz), oqI k (u_4 3) 8 (hsz), oqI k (u_4 4) 6 (hsz), oqI k (u_4 5) 6 (hsz), oqI k (u_4 6) 6 (hsz), oq5 q_5 (u_8 0) (u_8 1) (u_8 2) (u_8 3) (u_8 4) (u_8 5) (u_8 6) 2 0 0 0 0 2 0 0, oqI k (u_8 0) 8 (hsw), oqI k (u_8 1) 4 (hsz), oqI k (u_8 2) 8 (hsz), oqI k (u_8 3) 8 (hsz), oqI k (u_8 4) 6 (hsz), oqI k (u_8 5) 6 (hsz), oqI k (u_8 6) 6 (hsz), (q_9, .inl (k 4, 2, .inr (.inr (.inr (.inr (fun _ => none)))))), oqB k q_10 2 (hsz), (q_11, .inr (4, [.null, .null, .int 0, .int 0, .int 0]))] := hD
  refine W.widen (k := 19) (n := 131) (Nat.le_of_ble_eq_true rfl) (Nat.le_of_ble_eq_true rfl) ?_
  refine lv_dup hx hb dX7_init_45 rfl ?_
  refine hs_cvM (va_runIN (As := []) (rest := [.ref q_11, .ref t]) ⟨hx, hb, hml, hown, hts⟩ (c_Teller_init l D k _ q_11) ⟨(va_cnB 0 hts gX7_init_X5_init_n29 rfl rfl rfl hN.1 iniX5 hq_X5_init ⟨Nat.le_of_ble_eq_true rfl, Nat.le_of_ble_eq_true rfl⟩), rfl, im_X5_init⟩ (hs_preS hK hN (hs_subP (w := [_]) hP [19] rfl) (hD.sub (ws' := [_]) [19] (hs_upnd rfl) rfl)) rfl rfl hl.1 rfl (lv_room (Nat.le_of_ble_eq_true rfl)) dX7_init_46 ⟨Nat.le_of_ble_eq_true rfl, Nat.le_of_ble_eq_true rfl⟩) hP hD hS hA [true, true, true, true, true, true, true, true, true, true, true, true, true, true, true, true, true, true, true, false] [_, _, _, _, _, _, _, _, _, _, _, _, _, _, _, _, _, _, _] [_] rfl [0] rfl [0, 1, 2, 3, 4, 5, 6, 7, 8, 9, 10] (fun u_14 => [_, _, _, _, _, _, _, _, _, _, _]) (fun _ => rfl) (hs_upnd rfl) [true, true, true, true, true, true, true, true, true, true, true, true, true, true, true, true, true, true, true, false, false, false, false, false, false, false, false, false, false, false] (fun u_14 => [_, _, _, _, _, _, _, _, _, _, _, _, _, _, _, _, _, _, _, _, _, _, _, _, _, _, _, _, _, _]) (fun _ => rfl) (fun u_14 H locs hw_13 hP hD hS => ?_)
  refine W.widen (k := 29) (n := 358) (Nat.le_of_ble_eq_true rfl) (Nat.le_of_ble_eq_true rfl) ?_
  refine va_putF (D := D) (ci := 6) (v := .ref q_11) (ty := (.object "HalfScales$Teller")) (C := RX7) (T := TX7) (N := 10) hx hb hts hiX7 tyX7 tyX7_ok nmX7 hown hK hP hD hS 0 rfl rfl 4 (Nat.le_of_ble_eq_true rfl) fl30 (fun _ h9 => h9) rfl hin rfl (by decide +kernel) rfl rfl (Nat.le_of_ble_eq_true rfl) dX7_init_49 (fun H locs hP hD hS => ?_)
  have hP : va_P D vwCl [(t, .inr (6, [.ref q_1, .ref q_5, .ref q_9, .ref q_10, .ref q_11, .null, .null, .null, .int 0, .int 0])), _, _, _, _, _, _, _, _, _, _, _, _, _, _, _, _, _, _, _, _, _, _, _, _, _, _, _, _, _] H := hP
  have hD : va_D A [(t, .inr (6, [.ref q_1, .ref q_5, .ref q_9, .ref q_10, .ref q_11, .null, .null, .null, .int 0, .int 0])), _, _, _, _, _, _, _, _, _, _, _, _, _, _, _, _, _, _, _, _, _, _, _, _, _, _, _, _, _] := hD
  refine lv_aload_n hx hb dX7_init_52 rfl (lv_at hl 0 rfl) ?_
  refine va_new (ci := 1) (fs := [.null, .null, .int 0]) (C := RX2) (T := TX2) (N := 3) hx hb hts hiX2 tyX2 tyX2_ok hown cl34 inX2 iniX2 hK hP hD hS hA rfl nfX2 (Nat.le_of_ble_eq_true rfl) (Nat.le_of_ble_eq_true rfl) dX7_init_53 (fun q_15 H hP hD hS => ?_)
  have hP : va_P D vwCl [(t, .inr (6, [.ref q_1, .ref q_5, .ref q_9, .ref q_10, .ref q_11, .null, .null, .null, .int 0, .int 0])), oq5 q_1 (u_4 0) (u_4 1) (u_4 2) (u_4 3) (u_4 4) (u_4 5) (u_4 6) 2 0 0 0 0 2 0 0, oqI k (u_4 0) 8 (hsw), oqI k (u_4 1) 4 (hsz), oqI k (u_4 2) 8 (hsz), oqI k (u_4 3) 8 (hsz), oqI k (u_4 4) 6 (hsz), oqI k (u_4 5) 6 (hsz), oqI k (u_4 6) 6 (hsz), oq5 q_5 (u_8 0) (u_8 1) (u_8 2) (u_8 3) (u_8 4) (u_8 5) (u_8 6) 2 0 0 0 0 2 0 0, oqI k (u_8 0) 8 (hsw), oqI k (u_8 1) 4 (hsz), oqI k (u_8 2) 8 (hsz), oqI k (u_8 3) 8 (hsz), oqI k (u_8 4) 6 (hsz), oqI k (u_8 5) 6 (hsz), oqI k (u_8 6) 6 (hsz), (q_9, .inl (k 4, 2, .inr (.inr (.inr (.inr (fun _ => none)))))), oqB k q_10 2 (hsz), oq4 q_11 (u_14 0) (u_14 2) 0 0 0, oq3 (u_14 0) (u_14 1) 0 0 0 0 0, oqI k (u_14 1) 160 (hsz), oq5 (u_14 2) (u_14 3) (u_14 4) (u_14 5) (u_14 6) (u_14 7) (u_14 8) (u_14 9) 2 0 0 0 0 2 0 0, oqI k (u_14 3) 8 (hsw), oqI k (u_14 4) 4 (hsz), oqI k (u_14 5) 8 (hsz), oqI k (u_14 6) 8 (hsz), oqI k (u_14 7) 6 (hsz), oqI k (u_14 8) 6 (hsz), oqI k (u_14 9) 6 (hsz), (q_15, .inr (1, [.null, .null, .int 0]))] H := hP
  have hD : va_D A [(t, .inr (6, [.ref q_1, .ref q_5, .ref q_9, .ref q_10, .ref q_11, .null, .null, .null, .int 0, .int 0])), oq5 q_1 (u_4 0) (u_4 1) (u_4 2) (u_4 3) (u_4 4) (u_4 5) (u_4 6) 2 0 0 0 0 2 0 0, oqI k (u_4 0) 8 (hsw), oqI k (u_4 1) 4 (hsz), oqI k (u_4 2) 8 (hsz), oqI k (u_4 3) 8 (hsz), oqI k (u_4 4) 6 (hsz), oqI k (u_4 5) 6 (hsz), oqI k (u_4 6) 6 (hsz), oq5 q_5 (u_8 0) (u_8 1) (u_8 2) (u_8 3) (u_8 4) (u_8 5) (u_8 6) 2 0 0 0 0 2 0 0, oqI k (u_8 0) 8 (hsw), oqI k (u_8 1) 4 (hsz), oqI k (u_8 2) 8 (hsz), oqI k (u_8 3) 8 (hsz), oqI k (u_8 4) 6 (hsz), oqI k (u_8 5) 6 (hsz), oqI k (u_8 6) 6 (hsz), (q_9, .inl (k 4, 2, .inr (.inr (.inr (.inr (fun _ => none)))))), oqB k q_10 2 (hsz), oq4 q_11 (u_14 0) (u_14 2) 0 0 0, oq3 (u_14 0) (u_14 1) 0 0 0 0 0, oqI k (u_14 1) 160 (hsz), oq5 (u_14 2) (u_14 3) (u_14 4) (u_14 5) (u_14 6) (u_14 7) (u_14 8) (u_14 9) 2 0 0 0 0 2 0 0, oqI k (u_14 3) 8 (hsw), oqI k (u_14 4) 4 (hsz), oqI k (u_14 5) 8 (hsz), oqI k (u_14 6) 8 (hsz), oqI k (u_14 7) 6 (hsz), oqI k (u_14 8) 6 (hsz), oqI k (u_14 9) 6 (hsz), (q_15, .inr (1, [.null, .null, .int 0]))] := hD
  refine W.widen (k := 30) (n := 361) (Nat.le_of_ble_eq_true rfl) (Nat.le_of_ble_eq_true rfl) ?_
  refine lv_dup hx hb dX7_init_56 rfl ?_
  refine hs_cvM (va_runIN (As := []) (rest := [.ref q_15, .ref t]) ⟨hx, hb, hml, hown, hts⟩ (c_Ranks_init l D k _ q_15) ⟨(va_cnB 0 hts gX7_init_X2_init_n36 rfl rfl rfl hN.2.2.1 iniX2 hq_X2_init ⟨Nat.le_of_ble_eq_true rfl, Nat.le_of_ble_eq_true rfl⟩), rfl, im_X2_init⟩ (hs_preS hK hN (hs_subP (w := [_]) hP [30] rfl) (hD.sub (ws' := [_]) [30] (hs_upnd rfl) rfl)) rfl rfl hl.1 rfl (lv_room (Nat.le_of_ble_eq_true rfl)) dX7_init_57 ⟨Nat.le_of_ble_eq_true rfl, Nat.le_of_ble_eq_true rfl⟩) hP hD hS hA [true, true, true, true, true, true, true, true, true, true, true, true, true, true, true, true, true, true, true, true, true, true, true, true, true, true, true, true, true, true, false] [_, _, _, _, _, _, _, _, _, _, _, _, _, _, _, _, _, _, _, _, _, _, _, _, _, _, _, _, _, _] [_] rfl [0] rfl [0, 1, 2] (fun u_18 => [_, _, _]) (fun _ => rfl) (hs_upnd rfl) [true, true, true, true, true, true, true, true, true, true, true, true, true, true, true, true, true, true, true, true, true, true, true, true, true, true, true, true, true, true, false, false, false] (fun u_18 => [_, _, _, _, _, _, _, _, _, _, _, _, _, _, _, _, _, _, _, _, _, _, _, _, _, _, _, _, _, _, _, _, _]) (fun _ => rfl) (fun u_18 H locs hw_17 hP hD hS => ?_)
  refine W.widen (k := 32) (n := 398) (Nat.le_of_ble_eq_true rfl) (Nat.le_of_ble_eq_true rfl) ?_
  refine va_putF (D := D) (ci := 6) (v := .ref q_15) (ty := (.object "HalfScales$Ranks")) (C := RX7) (T := TX7) (N := 10) hx hb hts hiX7 tyX7 tyX7_ok nmX7 hown hK hP hD hS 0 rfl rfl 5 (Nat.le_of_ble_eq_true rfl) fl37 (fun _ h9 => h9) rfl hin rfl (by decide +kernel) rfl rfl (Nat.le_of_ble_eq_true rfl) dX7_init_60 (fun H locs hP hD hS => ?_)
  have hP : va_P D vwCl [(t, .inr (6, [.ref q_1, .ref q_5, .ref q_9, .ref q_10, .ref q_11, .ref q_15, .null, .null, .int 0, .int 0])), _, _, _, _, _, _, _, _, _, _, _, _, _, _, _, _, _, _, _, _, _, _, _, _, _, _, _, _, _, _, _, _] H := hP
  have hD : va_D A [(t, .inr (6, [.ref q_1, .ref q_5, .ref q_9, .ref q_10, .ref q_11, .ref q_15, .null, .null, .int 0, .int 0])), _, _, _, _, _, _, _, _, _, _, _, _, _, _, _, _, _, _, _, _, _, _, _, _, _, _, _, _, _, _, _, _] := hD
  refine lv_aload_n hx hb dX7_init_63 rfl (lv_at hl 0 rfl) ?_
  refine va_new (ci := 0) (fs := [.null]) (C := RX0) (T := TX0) (N := 1) hx hb hts hiX0 tyX0 tyX0_ok hown cl41 inX0 iniX0 hK hP hD hS hA rfl nfX0 (Nat.le_of_ble_eq_true rfl) (Nat.le_of_ble_eq_true rfl) dX7_init_64 (fun q_19 H hP hD hS => ?_)
  have hP : va_P D vwCl [(t, .inr (6, [.ref q_1, .ref q_5, .ref q_9, .ref q_10, .ref q_11, .ref q_15, .null, .null, .int 0, .int 0])), oq5 q_1 (u_4 0) (u_4 1) (u_4 2) (u_4 3) (u_4 4) (u_4 5) (u_4 6) 2 0 0 0 0 2 0 0, oqI k (u_4 0) 8 (hsw), oqI k (u_4 1) 4 (hsz), oqI k (u_4 2) 8 (hsz), oqI k (u_4 3) 8 (hsz), oqI k (u_4 4) 6 (hsz), oqI k (u_4 5) 6 (hsz), oqI k (u_4 6) 6 (hsz), oq5 q_5 (u_8 0) (u_8 1) (u_8 2) (u_8 3) (u_8 4) (u_8 5) (u_8 6) 2 0 0 0 0 2 0 0, oqI k (u_8 0) 8 (hsw), oqI k (u_8 1) 4 (hsz), oqI k (u_8 2) 8 (hsz), oqI k (u_8 3) 8 (hsz), oqI k (u_8 4) 6 (hsz), oqI k (u_8 5) 6 (hsz), oqI k (u_8 6) 6 (hsz), (q_9, .inl (k 4, 2, .inr (.inr (.inr (.inr (fun _ => none)))))), oqB k q_10 2 (hsz), oq4 q_11 (u_14 0) (u_14 2) 0 0 0, oq3 (u_14 0) (u_14 1) 0 0 0 0 0, oqI k (u_14 1) 160 (hsz), oq5 (u_14 2) (u_14 3) (u_14 4) (u_14 5) (u_14 6) (u_14 7) (u_14 8) (u_14 9) 2 0 0 0 0 2 0 0, oqI k (u_14 3) 8 (hsw), oqI k (u_14 4) 4 (hsz), oqI k (u_14 5) 8 (hsz), oqI k (u_14 6) 8 (hsz), oqI k (u_14 7) 6 (hsz), oqI k (u_14 8) 6 (hsz), oqI k (u_14 9) 6 (hsz), oq1 q_15 (u_18 0) (u_18 1) 0, oqI k (u_18 0) 5 (hsz), oqI k (u_18 1) 32 (hsz), (q_19, .inr (0, [.null]))] H := hP
  have hD : va_D A [(t, .inr (6, [.ref q_1, .ref q_5, .ref q_9, .ref q_10, .ref q_11, .ref q_15, .null, .null, .int 0, .int 0])), oq5 q_1 (u_4 0) (u_4 1) (u_4 2) (u_4 3) (u_4 4) (u_4 5) (u_4 6) 2 0 0 0 0 2 0 0, oqI k (u_4 0) 8 (hsw), oqI k (u_4 1) 4 (hsz), oqI k (u_4 2) 8 (hsz), oqI k (u_4 3) 8 (hsz), oqI k (u_4 4) 6 (hsz), oqI k (u_4 5) 6 (hsz), oqI k (u_4 6) 6 (hsz), oq5 q_5 (u_8 0) (u_8 1) (u_8 2) (u_8 3) (u_8 4) (u_8 5) (u_8 6) 2 0 0 0 0 2 0 0, oqI k (u_8 0) 8 (hsw), oqI k (u_8 1) 4 (hsz), oqI k (u_8 2) 8 (hsz), oqI k (u_8 3) 8 (hsz), oqI k (u_8 4) 6 (hsz), oqI k (u_8 5) 6 (hsz), oqI k (u_8 6) 6 (hsz), (q_9, .inl (k 4, 2, .inr (.inr (.inr (.inr (fun _ => none)))))), oqB k q_10 2 (hsz), oq4 q_11 (u_14 0) (u_14 2) 0 0 0, oq3 (u_14 0) (u_14 1) 0 0 0 0 0, oqI k (u_14 1) 160 (hsz), oq5 (u_14 2) (u_14 3) (u_14 4) (u_14 5) (u_14 6) (u_14 7) (u_14 8) (u_14 9) 2 0 0 0 0 2 0 0, oqI k (u_14 3) 8 (hsw), oqI k (u_14 4) 4 (hsz), oqI k (u_14 5) 8 (hsz), oqI k (u_14 6) 8 (hsz), oqI k (u_14 7) 6 (hsz), oqI k (u_14 8) 6 (hsz), oqI k (u_14 9) 6 (hsz), oq1 q_15 (u_18 0) (u_18 1) 0, oqI k (u_18 0) 5 (hsz), oqI k (u_18 1) 32 (hsz), (q_19, .inr (0, [.null]))] := hD
  refine W.widen (k := 33) (n := 399) (Nat.le_of_ble_eq_true rfl) (Nat.le_of_ble_eq_true rfl) ?_
  refine lv_dup hx hb dX7_init_67 rfl ?_
  refine hs_cvM (va_runIN (As := []) (rest := [.ref q_19, .ref t]) ⟨hx, hb, hml, hown, hts⟩ (c_Court_init l D k _ q_19) ⟨(va_cnB 0 hts gX7_init_X0_init_n43 rfl rfl rfl hN.2.2.2.1 iniX0 hq_X0_init ⟨Nat.le_of_ble_eq_true rfl, Nat.le_of_ble_eq_true rfl⟩), rfl, im_X0_init⟩ (hs_preS hK hN (hs_subP (w := [_]) hP [33] rfl) (hD.sub (ws' := [_]) [33] (hs_upnd rfl) rfl)) rfl rfl hl.1 rfl (lv_room (Nat.le_of_ble_eq_true rfl)) dX7_init_68 ⟨Nat.le_of_ble_eq_true rfl, Nat.le_of_ble_eq_true rfl⟩) hP hD hS hA [true, true, true, true, true, true, true, true, true, true, true, true, true, true, true, true, true, true, true, true, true, true, true, true, true, true, true, true, true, true, true, true, true, false] [_, _, _, _, _, _, _, _, _, _, _, _, _, _, _, _, _, _, _, _, _, _, _, _, _, _, _, _, _, _, _, _, _] [_] rfl [0] rfl [0, 1] (fun u_22 => [_, _]) (fun _ => rfl) (hs_upnd rfl) [true, true, true, true, true, true, true, true, true, true, true, true, true, true, true, true, true, true, true, true, true, true, true, true, true, true, true, true, true, true, true, true, true, false, false] (fun u_22 => [_, _, _, _, _, _, _, _, _, _, _, _, _, _, _, _, _, _, _, _, _, _, _, _, _, _, _, _, _, _, _, _, _, _, _]) (fun _ => rfl) (fun u_22 H locs hw_21 hP hD hS => ?_)
  refine W.widen (k := 34) (n := 404) (Nat.le_of_ble_eq_true rfl) (Nat.le_of_ble_eq_true rfl) ?_
  refine va_putF (D := D) (ci := 6) (v := .ref q_19) (ty := (.object "HalfScales$Court")) (C := RX7) (T := TX7) (N := 10) hx hb hts hiX7 tyX7 tyX7_ok nmX7 hown hK hP hD hS 0 rfl rfl 6 (Nat.le_of_ble_eq_true rfl) fl44 (fun _ h9 => h9) rfl hin rfl (by decide +kernel) rfl rfl (Nat.le_of_ble_eq_true rfl) dX7_init_71 (fun H locs hP hD hS => ?_)
  have hP : va_P D vwCl [(t, .inr (6, [.ref q_1, .ref q_5, .ref q_9, .ref q_10, .ref q_11, .ref q_15, .ref q_19, .null, .int 0, .int 0])), _, _, _, _, _, _, _, _, _, _, _, _, _, _, _, _, _, _, _, _, _, _, _, _, _, _, _, _, _, _, _, _, _, _] H := hP
  have hD : va_D A [(t, .inr (6, [.ref q_1, .ref q_5, .ref q_9, .ref q_10, .ref q_11, .ref q_15, .ref q_19, .null, .int 0, .int 0])), _, _, _, _, _, _, _, _, _, _, _, _, _, _, _, _, _, _, _, _, _, _, _, _, _, _, _, _, _, _, _, _, _, _] := hD
  refine lv_aload_n hx hb dX7_init_74 rfl (lv_at hl 0 rfl) ?_
  refine lv_iconst (v := 4) hx hb dX7_init_75 hki_4 ?_
  refine va_newq (C := RX3) (N' := 4) hx hb hown cl48 hN.2.2.2.2.2.2.2.2.2.2 hK hP hD hS hA (by decide) (by decide) (by decide) (Nat.le_of_ble_eq_true rfl) (Nat.le_of_ble_eq_true rfl) dX7_init_76 (fun q_23 cA H hK2 hP hD hS => ?_)
  obtain rfl : cA = k 3 := hs_cAS hK2
  have hP : va_P D vwCl [(t, .inr (6, [.ref q_1, .ref q_5, .ref q_9, .ref q_10, .ref q_11, .ref q_15, .ref q_19, .null, .int 0, .int 0])), oq5 q_1 (u_4 0) (u_4 1) (u_4 2) (u_4 3) (u_4 4) (u_4 5) (u_4 6) 2 0 0 0 0 2 0 0, oqI k (u_4 0) 8 (hsw), oqI k (u_4 1) 4 (hsz), oqI k (u_4 2) 8 (hsz), oqI k (u_4 3) 8 (hsz), oqI k (u_4 4) 6 (hsz), oqI k (u_4 5) 6 (hsz), oqI k (u_4 6) 6 (hsz), oq5 q_5 (u_8 0) (u_8 1) (u_8 2) (u_8 3) (u_8 4) (u_8 5) (u_8 6) 2 0 0 0 0 2 0 0, oqI k (u_8 0) 8 (hsw), oqI k (u_8 1) 4 (hsz), oqI k (u_8 2) 8 (hsz), oqI k (u_8 3) 8 (hsz), oqI k (u_8 4) 6 (hsz), oqI k (u_8 5) 6 (hsz), oqI k (u_8 6) 6 (hsz), (q_9, .inl (k 4, 2, .inr (.inr (.inr (.inr (fun _ => none)))))), oqB k q_10 2 (hsz), oq4 q_11 (u_14 0) (u_14 2) 0 0 0, oq3 (u_14 0) (u_14 1) 0 0 0 0 0, oqI k (u_14 1) 160 (hsz), oq5 (u_14 2) (u_14 3) (u_14 4) (u_14 5) (u_14 6) (u_14 7) (u_14 8) (u_14 9) 2 0 0 0 0 2 0 0, oqI k (u_14 3) 8 (hsw), oqI k (u_14 4) 4 (hsz), oqI k (u_14 5) 8 (hsz), oqI k (u_14 6) 8 (hsz), oqI k (u_14 7) 6 (hsz), oqI k (u_14 8) 6 (hsz), oqI k (u_14 9) 6 (hsz), oq1 q_15 (u_18 0) (u_18 1) 0, oqI k (u_18 0) 5 (hsz), oqI k (u_18 1) 32 (hsz), oq0 q_19 (u_22 0), oqL k (u_22 0) 5 (hszl), (q_23, .inl (k 3, 4, .inr (.inr (.inr (.inr (fun _ => none))))))] H := hP
  have hD : va_D A [(t, .inr (6, [.ref q_1, .ref q_5, .ref q_9, .ref q_10, .ref q_11, .ref q_15, .ref q_19, .null, .int 0, .int 0])), oq5 q_1 (u_4 0) (u_4 1) (u_4 2) (u_4 3) (u_4 4) (u_4 5) (u_4 6) 2 0 0 0 0 2 0 0, oqI k (u_4 0) 8 (hsw), oqI k (u_4 1) 4 (hsz), oqI k (u_4 2) 8 (hsz), oqI k (u_4 3) 8 (hsz), oqI k (u_4 4) 6 (hsz), oqI k (u_4 5) 6 (hsz), oqI k (u_4 6) 6 (hsz), oq5 q_5 (u_8 0) (u_8 1) (u_8 2) (u_8 3) (u_8 4) (u_8 5) (u_8 6) 2 0 0 0 0 2 0 0, oqI k (u_8 0) 8 (hsw), oqI k (u_8 1) 4 (hsz), oqI k (u_8 2) 8 (hsz), oqI k (u_8 3) 8 (hsz), oqI k (u_8 4) 6 (hsz), oqI k (u_8 5) 6 (hsz), oqI k (u_8 6) 6 (hsz), (q_9, .inl (k 4, 2, .inr (.inr (.inr (.inr (fun _ => none)))))), oqB k q_10 2 (hsz), oq4 q_11 (u_14 0) (u_14 2) 0 0 0, oq3 (u_14 0) (u_14 1) 0 0 0 0 0, oqI k (u_14 1) 160 (hsz), oq5 (u_14 2) (u_14 3) (u_14 4) (u_14 5) (u_14 6) (u_14 7) (u_14 8) (u_14 9) 2 0 0 0 0 2 0 0, oqI k (u_14 3) 8 (hsw), oqI k (u_14 4) 4 (hsz), oqI k (u_14 5) 8 (hsz), oqI k (u_14 6) 8 (hsz), oqI k (u_14 7) 6 (hsz), oqI k (u_14 8) 6 (hsz), oqI k (u_14 9) 6 (hsz), oq1 q_15 (u_18 0) (u_18 1) 0, oqI k (u_18 0) 5 (hsz), oqI k (u_18 1) 32 (hsz), oq0 q_19 (u_22 0), oqL k (u_22 0) 5 (hszl), (q_23, .inl (k 3, 4, .inr (.inr (.inr (.inr (fun _ => none))))))] := hD
  refine W.widen (k := 35) (n := 408) (Nat.le_of_ble_eq_true rfl) (Nat.le_of_ble_eq_true rfl) ?_
  refine va_putF (D := D) (ci := 6) (v := .ref q_23) (ty := (.array (.object "HalfScales$Sheet"))) (C := RX7) (T := TX7) (N := 10) hx hb hts hiX7 tyX7 tyX7_ok nmX7 hown hK hP hD hS 0 rfl rfl 7 (Nat.le_of_ble_eq_true rfl) fl50 (fun _ h9 => h9) rfl hin rfl (by decide +kernel) rfl rfl (Nat.le_of_ble_eq_true rfl) dX7_init_79 (fun H locs hP hD hS => ?_)
  have hP : va_P D vwCl [oq6 t q_1 q_5 q_9 q_10 q_11 q_15 q_19 q_23 0 0, _, _, _, _, _, _, _, _, _, _, _, _, _, _, _, _, _, _, _, _, _, _, _, _, _, _, _, _, _, _, _, _, _, _, _] H := hP
  have hD : va_D A [oq6 t q_1 q_5 q_9 q_10 q_11 q_15 q_19 q_23 0 0, _, _, _, _, _, _, _, _, _, _, _, _, _, _, _, _, _, _, _, _, _, _, _, _, _, _, _, _, _, _, _, _, _, _, _] := hD
  refine lv_iconst (v := 0) hx hb dX7_init_82 hki_0 ?_
  refine lv_istore_n (lv' := [(1, .int 0), (0, .ref t)]) hx hb dX7_init_83 rfl hl (Nat.le_of_ble_eq_true rfl) rfl (fun ls hl => ?_)
  refine lv_iload_n hx hb dX7_init_84 rfl (lv_at hl 0 rfl) ?_
  refine lv_iconst (v := 2) hx hb dX7_init_85 hki_2 ?_
  refine lv_icmp_ge (tgt := 108) hx hb dX7_init_86 rfl (fun c_24 => absurd c_24 (by decide)) (fun c_24 => ?_)
  refine lv_aload_n hx hb dX7_init_89 rfl (lv_at hl 1 rfl) ?_
  refine va_get (D := D) (ci := 6) (v := .ref q_9) (C := RX7) (T := TX7) (N := 10) hx hb hts hiX7 hown hK hP 0 rfl rfl 2 (Nat.le_of_ble_eq_true rfl) fl19 (fun _ h9 => h9) rfl dX7_init_90 ?_
  refine lv_iload_n hx hb dX7_init_93 rfl (lv_at hl 0 rfl) ?_
  refine va_new (ci := 5) (fs := [.null, .null, .null, .null, .null, .null, .null, .int 0, .int 0, .int 0, .int 0, .int 0, .int 0, .int 0, .int 0]) (C := RX6) (T := TX6) (N := 15) hx hb hts hiX6 tyX6 tyX6_ok hown cl7 inX6 iniX6 hK hP hD hS hA rfl nfX6 (Nat.le_of_ble_eq_true rfl) (Nat.le_of_ble_eq_true rfl) dX7_init_94 (fun q_25 H hP hD hS => ?_)
  have hP : va_P D vwCl [oq6 t q_1 q_5 q_9 q_10 q_11 q_15 q_19 q_23 0 0, oq5 q_1 (u_4 0) (u_4 1) (u_4 2) (u_4 3) (u_4 4) (u_4 5) (u_4 6) 2 0 0 0 0 2 0 0, oqI k (u_4 0) 8 (hsw), oqI k (u_4 1) 4 (hsz), oqI k (u_4 2) 8 (hsz), oqI k (u_4 3) 8 (hsz), oqI k (u_4 4) 6 (hsz), oqI k (u_4 5) 6 (hsz), oqI k (u_4 6) 6 (hsz), oq5 q_5 (u_8 0) (u_8 1) (u_8 2) (u_8 3) (u_8 4) (u_8 5) (u_8 6) 2 0 0 0 0 2 0 0, oqI k (u_8 0) 8 (hsw), oqI k (u_8 1) 4 (hsz), oqI k (u_8 2) 8 (hsz), oqI k (u_8 3) 8 (hsz), oqI k (u_8 4) 6 (hsz), oqI k (u_8 5) 6 (hsz), oqI k (u_8 6) 6 (hsz), (q_9, .inl (k 4, 2, .inr (.inr (.inr (.inr (fun _ => none)))))), oqB k q_10 2 (hsz), oq4 q_11 (u_14 0) (u_14 2) 0 0 0, oq3 (u_14 0) (u_14 1) 0 0 0 0 0, oqI k (u_14 1) 160 (hsz), oq5 (u_14 2) (u_14 3) (u_14 4) (u_14 5) (u_14 6) (u_14 7) (u_14 8) (u_14 9) 2 0 0 0 0 2 0 0, oqI k (u_14 3) 8 (hsw), oqI k (u_14 4) 4 (hsz), oqI k (u_14 5) 8 (hsz), oqI k (u_14 6) 8 (hsz), oqI k (u_14 7) 6 (hsz), oqI k (u_14 8) 6 (hsz), oqI k (u_14 9) 6 (hsz), oq1 q_15 (u_18 0) (u_18 1) 0, oqI k (u_18 0) 5 (hsz), oqI k (u_18 1) 32 (hsz), oq0 q_19 (u_22 0), oqL k (u_22 0) 5 (hszl), (q_23, .inl (k 3, 4, .inr (.inr (.inr (.inr (fun _ => none)))))), (q_25, .inr (5, [.null, .null, .null, .null, .null, .null, .null, .int 0, .int 0, .int 0, .int 0, .int 0, .int 0, .int 0, .int 0]))] H := hP
  have hD : va_D A [oq6 t q_1 q_5 q_9 q_10 q_11 q_15 q_19 q_23 0 0, oq5 q_1 (u_4 0) (u_4 1) (u_4 2) (u_4 3) (u_4 4) (u_4 5) (u_4 6) 2 0 0 0 0 2 0 0, oqI k (u_4 0) 8 (hsw), oqI k (u_4 1) 4 (hsz), oqI k (u_4 2) 8 (hsz), oqI k (u_4 3) 8 (hsz), oqI k (u_4 4) 6 (hsz), oqI k (u_4 5) 6 (hsz), oqI k (u_4 6) 6 (hsz), oq5 q_5 (u_8 0) (u_8 1) (u_8 2) (u_8 3) (u_8 4) (u_8 5) (u_8 6) 2 0 0 0 0 2 0 0, oqI k (u_8 0) 8 (hsw), oqI k (u_8 1) 4 (hsz), oqI k (u_8 2) 8 (hsz), oqI k (u_8 3) 8 (hsz), oqI k (u_8 4) 6 (hsz), oqI k (u_8 5) 6 (hsz), oqI k (u_8 6) 6 (hsz), (q_9, .inl (k 4, 2, .inr (.inr (.inr (.inr (fun _ => none)))))), oqB k q_10 2 (hsz), oq4 q_11 (u_14 0) (u_14 2) 0 0 0, oq3 (u_14 0) (u_14 1) 0 0 0 0 0, oqI k (u_14 1) 160 (hsz), oq5 (u_14 2) (u_14 3) (u_14 4) (u_14 5) (u_14 6) (u_14 7) (u_14 8) (u_14 9) 2 0 0 0 0 2 0 0, oqI k (u_14 3) 8 (hsw), oqI k (u_14 4) 4 (hsz), oqI k (u_14 5) 8 (hsz), oqI k (u_14 6) 8 (hsz), oqI k (u_14 7) 6 (hsz), oqI k (u_14 8) 6 (hsz), oqI k (u_14 9) 6 (hsz), oq1 q_15 (u_18 0) (u_18 1) 0, oqI k (u_18 0) 5 (hsz), oqI k (u_18 1) 32 (hsz), oq0 q_19 (u_22 0), oqL k (u_22 0) 5 (hszl), (q_23, .inl (k 3, 4, .inr (.inr (.inr (.inr (fun _ => none)))))), (q_25, .inr (5, [.null, .null, .null, .null, .null, .null, .null, .int 0, .int 0, .int 0, .int 0, .int 0, .int 0, .int 0, .int 0]))] := hD
  refine W.widen (k := 36) (n := 423) (Nat.le_of_ble_eq_true rfl) (Nat.le_of_ble_eq_true rfl) ?_
  refine lv_dup hx hb dX7_init_97 rfl ?_
  refine hs_cvM (va_runI (As := []) (rest := [.ref q_25, .int 0, .ref q_9]) ⟨hx, hb, hml, hown, hts⟩ (c_Thing_init l D k _ q_25) (cwI 0 hts gX7_init_X6_init rfl rfl rfl iniX6 ml9 im_X6_init rfl hq_X6_init ⟨Nat.le_of_ble_eq_true rfl, Nat.le_of_ble_eq_true rfl⟩) (hs_preS hK hN (hs_subP (w := [_]) hP [36] rfl) (hD.sub (ws' := [_]) [36] (hs_upnd rfl) rfl)) rfl rfl hl.1 rfl (lv_room (Nat.le_of_ble_eq_true rfl)) dX7_init_98 ⟨Nat.le_of_ble_eq_true rfl, Nat.le_of_ble_eq_true rfl⟩) hP hD hS hA [true, true, true, true, true, true, true, true, true, true, true, true, true, true, true, true, true, true, true, true, true, true, true, true, true, true, true, true, true, true, true, true, true, true, true, true, false] [_, _, _, _, _, _, _, _, _, _, _, _, _, _, _, _, _, _, _, _, _, _, _, _, _, _, _, _, _, _, _, _, _, _, _, _] [_] rfl [0] rfl [0, 1, 2, 3, 4, 5, 6, 7] (fun u_28 => [_, _, _, _, _, _, _, _]) (fun _ => rfl) (hs_upnd rfl) [true, true, true, true, true, true, true, true, true, true, true, true, true, true, true, true, true, true, true, true, true, true, true, true, true, true, true, true, true, true, true, true, true, true, true, true, false, false, false, false, false, false, false, false] (fun u_28 => [_, _, _, _, _, _, _, _, _, _, _, _, _, _, _, _, _, _, _, _, _, _, _, _, _, _, _, _, _, _, _, _, _, _, _, _, _, _, _, _, _, _, _, _]) (fun _ => rfl) (fun u_28 H locs hw_27 hP hD hS => ?_)
  refine W.widen (k := 43) (n := 469) (Nat.le_of_ble_eq_true rfl) (Nat.le_of_ble_eq_true rfl) ?_
  refine va_astq (ci := 5) hx hb hK hP hD hS 17 4 36 (r := (RX6, TX6, 15)) rfl rfl rfl rfl (hs_in (by decide)) dX7_init_101 (fun H locs hP hD hS => ?_)
  have hP : va_P D vwCl [_, _, _, _, _, _, _, _, _, _, _, _, _, _, _, _, _, (q_9, .inl (k 4, 2, .inr (.inr (.inr (.inr (va_up (fun _ => none) 0 (some q_25))))))), _, _, _, _, _, _, _, _, _, _, _, _, _, _, _, _, _, _, _, _, _, _, _, _, _, _] H := hP
  have hD : va_D A [_, _, _, _, _, _, _, _, _, _, _, _, _, _, _, _, _, (q_9, .inl (k 4, 2, .inr (.inr (.inr (.inr (va_up (fun _ => none) 0 (some q_25))))))), _, _, _, _, _, _, _, _, _, _, _, _, _, _, _, _, _, _, _, _, _, _, _, _, _, _] := hD
  refine lv_iinc (v := 1) (lv' := [(1, .int 1), (0, .ref t)]) hx hb dX7_init_102 hl (k := 0) rfl (by decide) (Nat.le_of_ble_eq_true rfl) rfl (fun ls hl => ?_)
  refine lv_goto (tgt := 84) hx hb dX7_init_105 rfl ?_
  refine lv_iload_n hx hb dX7_init_84 rfl (lv_at hl 0 rfl) ?_
  refine lv_iconst (v := 2) hx hb dX7_init_85 hki_2 ?_
  refine lv_icmp_ge (tgt := 108) hx hb dX7_init_86 rfl (fun c_29 => absurd c_29 (by decide)) (fun c_29 => ?_)
  refine lv_aload_n hx hb dX7_init_89 rfl (lv_at hl 1 rfl) ?_
  refine va_get (D := D) (ci := 6) (v := .ref q_9) (C := RX7) (T := TX7) (N := 10) hx hb hts hiX7 hown hK hP 0 rfl rfl 2 (Nat.le_of_ble_eq_true rfl) fl19 (fun _ h9 => h9) rfl dX7_init_90 ?_
  refine lv_iload_n hx hb dX7_init_93 rfl (lv_at hl 0 rfl) ?_
  refine va_new (ci := 5) (fs := [.null, .null, .null, .null, .null, .null, .null, .int 0, .int 0, .int 0, .int 0, .int 0, .int 0, .int 0, .int 0]) (C := RX6) (T := TX6) (N := 15) hx hb hts hiX6 tyX6 tyX6_ok hown cl7 inX6 iniX6 hK hP hD hS hA rfl nfX6 (Nat.le_of_ble_eq_true rfl) (Nat.le_of_ble_eq_true rfl) dX7_init_94 (fun q_30 H hP hD hS => ?_)
  have hP : va_P D vwCl [oq6 t q_1 q_5 q_9 q_10 q_11 q_15 q_19 q_23 0 0, oq5 q_1 (u_4 0) (u_4 1) (u_4 2) (u_4 3) (u_4 4) (u_4 5) (u_4 6) 2 0 0 0 0 2 0 0, oqI k (u_4 0) 8 (hsw), oqI k (u_4 1) 4 (hsz), oqI k (u_4 2) 8 (hsz), oqI k (u_4 3) 8 (hsz), oqI k (u_4 4) 6 (hsz), oqI k (u_4 5) 6 (hsz), oqI k (u_4 6) 6 (hsz), oq5 q_5 (u_8 0) (u_8 1) (u_8 2) (u_8 3) (u_8 4) (u_8 5) (u_8 6) 2 0 0 0 0 2 0 0, oqI k (u_8 0) 8 (hsw), oqI k (u_8 1) 4 (hsz), oqI k (u_8 2) 8 (hsz), oqI k (u_8 3) 8 (hsz), oqI k (u_8 4) 6 (hsz), oqI k (u_8 5) 6 (hsz), oqI k (u_8 6) 6 (hsz), (q_9, .inl (k 4, 2, .inr (.inr (.inr (.inr (va_up (fun _ => none) 0 (some q_25))))))), oqB k q_10 2 (hsz), oq4 q_11 (u_14 0) (u_14 2) 0 0 0, oq3 (u_14 0) (u_14 1) 0 0 0 0 0, oqI k (u_14 1) 160 (hsz), oq5 (u_14 2) (u_14 3) (u_14 4) (u_14 5) (u_14 6) (u_14 7) (u_14 8) (u_14 9) 2 0 0 0 0 2 0 0, oqI k (u_14 3) 8 (hsw), oqI k (u_14 4) 4 (hsz), oqI k (u_14 5) 8 (hsz), oqI k (u_14 6) 8 (hsz), oqI k (u_14 7) 6 (hsz), oqI k (u_14 8) 6 (hsz), oqI k (u_14 9) 6 (hsz), oq1 q_15 (u_18 0) (u_18 1) 0, oqI k (u_18 0) 5 (hsz), oqI k (u_18 1) 32 (hsz), oq0 q_19 (u_22 0), oqL k (u_22 0) 5 (hszl), (q_23, .inl (k 3, 4, .inr (.inr (.inr (.inr (fun _ => none)))))), oq5 q_25 (u_28 0) (u_28 1) (u_28 2) (u_28 3) (u_28 4) (u_28 5) (u_28 6) 2 0 0 0 0 2 0 0, oqI k (u_28 0) 8 (hsw), oqI k (u_28 1) 4 (hsz), oqI k (u_28 2) 8 (hsz), oqI k (u_28 3) 8 (hsz), oqI k (u_28 4) 6 (hsz), oqI k (u_28 5) 6 (hsz), oqI k (u_28 6) 6 (hsz), (q_30, .inr (5, [.null, .null, .null, .null, .null, .null, .null, .int 0, .int 0, .int 0, .int 0, .int 0, .int 0, .int 0, .int 0]))] H := hP
  have hD : va_D A [oq6 t q_1 q_5 q_9 q_10 q_11 q_15 q_19 q_23 0 0, oq5 q_1 (u_4 0) (u_4 1) (u_4 2) (u_4 3) (u_4 4) (u_4 5) (u_4 6) 2 0 0 0 0 2 0 0, oqI k (u_4 0) 8 (hsw), oqI k (u_4 1) 4 (hsz), oqI k (u_4 2) 8 (hsz), oqI k (u_4 3) 8 (hsz), oqI k (u_4 4) 6 (hsz), oqI k (u_4 5) 6 (hsz), oqI k (u_4 6) 6 (hsz), oq5 q_5 (u_8 0) (u_8 1) (u_8 2) (u_8 3) (u_8 4) (u_8 5) (u_8 6) 2 0 0 0 0 2 0 0, oqI k (u_8 0) 8 (hsw), oqI k (u_8 1) 4 (hsz), oqI k (u_8 2) 8 (hsz), oqI k (u_8 3) 8 (hsz), oqI k (u_8 4) 6 (hsz), oqI k (u_8 5) 6 (hsz), oqI k (u_8 6) 6 (hsz), (q_9, .inl (k 4, 2, .inr (.inr (.inr (.inr (va_up (fun _ => none) 0 (some q_25))))))), oqB k q_10 2 (hsz), oq4 q_11 (u_14 0) (u_14 2) 0 0 0, oq3 (u_14 0) (u_14 1) 0 0 0 0 0, oqI k (u_14 1) 160 (hsz), oq5 (u_14 2) (u_14 3) (u_14 4) (u_14 5) (u_14 6) (u_14 7) (u_14 8) (u_14 9) 2 0 0 0 0 2 0 0, oqI k (u_14 3) 8 (hsw), oqI k (u_14 4) 4 (hsz), oqI k (u_14 5) 8 (hsz), oqI k (u_14 6) 8 (hsz), oqI k (u_14 7) 6 (hsz), oqI k (u_14 8) 6 (hsz), oqI k (u_14 9) 6 (hsz), oq1 q_15 (u_18 0) (u_18 1) 0, oqI k (u_18 0) 5 (hsz), oqI k (u_18 1) 32 (hsz), oq0 q_19 (u_22 0), oqL k (u_22 0) 5 (hszl), (q_23, .inl (k 3, 4, .inr (.inr (.inr (.inr (fun _ => none)))))), oq5 q_25 (u_28 0) (u_28 1) (u_28 2) (u_28 3) (u_28 4) (u_28 5) (u_28 6) 2 0 0 0 0 2 0 0, oqI k (u_28 0) 8 (hsw), oqI k (u_28 1) 4 (hsz), oqI k (u_28 2) 8 (hsz), oqI k (u_28 3) 8 (hsz), oqI k (u_28 4) 6 (hsz), oqI k (u_28 5) 6 (hsz), oqI k (u_28 6) 6 (hsz), (q_30, .inr (5, [.null, .null, .null, .null, .null, .null, .null, .int 0, .int 0, .int 0, .int 0, .int 0, .int 0, .int 0, .int 0]))] := hD
  refine W.widen (k := 44) (n := 484) (Nat.le_of_ble_eq_true rfl) (Nat.le_of_ble_eq_true rfl) ?_
  refine lv_dup hx hb dX7_init_97 rfl ?_
  refine hs_cvM (va_runI (As := []) (rest := [.ref q_30, .int 1, .ref q_9]) ⟨hx, hb, hml, hown, hts⟩ (c_Thing_init l D k _ q_30) (cwI 0 hts gX7_init_X6_init rfl rfl rfl iniX6 ml9 im_X6_init rfl hq_X6_init ⟨Nat.le_of_ble_eq_true rfl, Nat.le_of_ble_eq_true rfl⟩) (hs_preS hK hN (hs_subP (w := [_]) hP [44] rfl) (hD.sub (ws' := [_]) [44] (hs_upnd rfl) rfl)) rfl rfl hl.1 rfl (lv_room (Nat.le_of_ble_eq_true rfl)) dX7_init_98 ⟨Nat.le_of_ble_eq_true rfl, Nat.le_of_ble_eq_true rfl⟩) hP hD hS hA [true, true, true, true, true, true, true, true, true, true, true, true, true, true, true, true, true, true, true, true, true, true, true, true, true, true, true, true, true, true, true, true, true, true, true, true, true, true, true, true, true, true, true, true, false] [_, _, _, _, _, _, _, _, _, _, _, _, _, _, _, _, _, _, _, _, _, _, _, _, _, _, _, _, _, _, _, _, _, _, _, _, _, _, _, _, _, _, _, _] [_] rfl [0] rfl [0, 1, 2, 3, 4, 5, 6, 7] (fun u_33 => [_, _, _, _, _, _, _, _]) (fun _ => rfl) (hs_upnd rfl) [true, true, true, true, true, true, true, true, true, true, true, true, true, true, true, true, true, true, true, true, true, true, true, true, true, true, true, true, true, true, true, true, true, true, true, true, true, true, true, true, true, true, true, true, false, false, false, false, false, false, false, false] (fun u_33 => [_, _, _, _, _, _, _, _, _, _, _, _, _, _, _, _, _, _, _, _, _, _, _, _, _, _, _, _, _, _, _, _, _, _, _, _, _, _, _, _, _, _, _, _, _, _, _, _, _, _, _, _]) (fun _ => rfl) (fun u_33 H locs hw_32 hP hD hS => ?_)
  refine W.widen (k := 51) (n := 530) (Nat.le_of_ble_eq_true rfl) (Nat.le_of_ble_eq_true rfl) ?_
  refine va_astq (ci := 5) hx hb hK hP hD hS 17 4 44 (r := (RX6, TX6, 15)) rfl rfl rfl rfl (hs_in (by decide)) dX7_init_101 (fun H locs hP hD hS => ?_)
  have hP : va_P D vwCl [_, _, _, _, _, _, _, _, _, _, _, _, _, _, _, _, _, (q_9, .inl (k 4, 2, .inr (.inr (.inr (.inr (va_up (va_up (fun _ => none) 0 (some q_25)) 1 (some q_30))))))), _, _, _, _, _, _, _, _, _, _, _, _, _, _, _, _, _, _, _, _, _, _, _, _, _, _, _, _, _, _, _, _, _, _] H := hP
  have hD : va_D A [_, _, _, _, _, _, _, _, _, _, _, _, _, _, _, _, _, (q_9, .inl (k 4, 2, .inr (.inr (.inr (.inr (va_up (va_up (fun _ => none) 0 (some q_25)) 1 (some q_30))))))), _, _, _, _, _, _, _, _, _, _, _, _, _, _, _, _, _, _, _, _, _, _, _, _, _, _, _, _, _, _, _, _, _, _] := hD
  refine lv_iinc (v := 2) (lv' := [(1, .int 2), (0, .ref t)]) hx hb dX7_init_102 hl (k := 0) rfl (by decide) (Nat.le_of_ble_eq_true rfl) rfl (fun ls hl => ?_)
  refine lv_goto (tgt := 84) hx hb dX7_init_105 rfl ?_
  refine lv_iload_n hx hb dX7_init_84 rfl (lv_at hl 0 rfl) ?_
  refine lv_iconst (v := 2) hx hb dX7_init_85 hki_2 ?_
  refine lv_icmp_ge (tgt := 108) hx hb dX7_init_86 rfl (fun c_34 => ?_) (fun c_34 => absurd c_34 (by decide))
  refine lv_iconst (v := 0) hx hb dX7_init_108 hki_0 ?_
  refine lv_istore_n (lv' := [(1, .int 0), (0, .ref t)]) hx hb dX7_init_109 rfl hl (Nat.le_of_ble_eq_true rfl) rfl (fun ls hl => ?_)
  refine lv_iload_n hx hb dX7_init_110 rfl (lv_at hl 0 rfl) ?_
  refine lv_iconst (v := 4) hx hb dX7_init_111 hki_4 ?_
  refine lv_icmp_ge (tgt := 134) hx hb dX7_init_112 rfl (fun c_35 => absurd c_35 (by decide)) (fun c_35 => ?_)
  refine lv_aload_n hx hb dX7_init_115 rfl (lv_at hl 1 rfl) ?_
  refine va_get (D := D) (ci := 6) (v := .ref q_23) (C := RX7) (T := TX7) (N := 10) hx hb hts hiX7 hown hK hP 0 rfl rfl 7 (Nat.le_of_ble_eq_true rfl) fl50 (fun _ h9 => h9) rfl dX7_init_116 ?_
  refine lv_iload_n hx hb dX7_init_119 rfl (lv_at hl 0 rfl) ?_
  refine va_new (ci := 2) (fs := [.null, .int 0, .int 0]) (C := RX3) (T := TX3) (N := 3) hx hb hts hiX3 tyX3 tyX3_ok hown cl48 inX3 iniX3 hK hP hD hS hA rfl nfX3 (Nat.le_of_ble_eq_true rfl) (Nat.le_of_ble_eq_true rfl) dX7_init_120 (fun q_36 H hP hD hS => ?_)
  have hP : va_P D vwCl [oq6 t q_1 q_5 q_9 q_10 q_11 q_15 q_19 q_23 0 0, oq5 q_1 (u_4 0) (u_4 1) (u_4 2) (u_4 3) (u_4 4) (u_4 5) (u_4 6) 2 0 0 0 0 2 0 0, oqI k (u_4 0) 8 (hsw), oqI k (u_4 1) 4 (hsz), oqI k (u_4 2) 8 (hsz), oqI k (u_4 3) 8 (hsz), oqI k (u_4 4) 6 (hsz), oqI k (u_4 5) 6 (hsz), oqI k (u_4 6) 6 (hsz), oq5 q_5 (u_8 0) (u_8 1) (u_8 2) (u_8 3) (u_8 4) (u_8 5) (u_8 6) 2 0 0 0 0 2 0 0, oqI k (u_8 0) 8 (hsw), oqI k (u_8 1) 4 (hsz), oqI k (u_8 2) 8 (hsz), oqI k (u_8 3) 8 (hsz), oqI k (u_8 4) 6 (hsz), oqI k (u_8 5) 6 (hsz), oqI k (u_8 6) 6 (hsz), (q_9, .inl (k 4, 2, .inr (.inr (.inr (.inr (va_up (va_up (fun _ => none) 0 (some q_25)) 1 (some q_30))))))), oqB k q_10 2 (hsz), oq4 q_11 (u_14 0) (u_14 2) 0 0 0, oq3 (u_14 0) (u_14 1) 0 0 0 0 0, oqI k (u_14 1) 160 (hsz), oq5 (u_14 2) (u_14 3) (u_14 4) (u_14 5) (u_14 6) (u_14 7) (u_14 8) (u_14 9) 2 0 0 0 0 2 0 0, oqI k (u_14 3) 8 (hsw), oqI k (u_14 4) 4 (hsz), oqI k (u_14 5) 8 (hsz), oqI k (u_14 6) 8 (hsz), oqI k (u_14 7) 6 (hsz), oqI k (u_14 8) 6 (hsz), oqI k (u_14 9) 6 (hsz), oq1 q_15 (u_18 0) (u_18 1) 0, oqI k (u_18 0) 5 (hsz), oqI k (u_18 1) 32 (hsz), oq0 q_19 (u_22 0), oqL k (u_22 0) 5 (hszl), (q_23, .inl (k 3, 4, .inr (.inr (.inr (.inr (fun _ => none)))))), oq5 q_25 (u_28 0) (u_28 1) (u_28 2) (u_28 3) (u_28 4) (u_28 5) (u_28 6) 2 0 0 0 0 2 0 0, oqI k (u_28 0) 8 (hsw), oqI k (u_28 1) 4 (hsz), oqI k (u_28 2) 8 (hsz), oqI k (u_28 3) 8 (hsz), oqI k (u_28 4) 6 (hsz), oqI k (u_28 5) 6 (hsz), oqI k (u_28 6) 6 (hsz), oq5 q_30 (u_33 0) (u_33 1) (u_33 2) (u_33 3) (u_33 4) (u_33 5) (u_33 6) 2 0 0 0 0 2 0 0, oqI k (u_33 0) 8 (hsw), oqI k (u_33 1) 4 (hsz), oqI k (u_33 2) 8 (hsz), oqI k (u_33 3) 8 (hsz), oqI k (u_33 4) 6 (hsz), oqI k (u_33 5) 6 (hsz), oqI k (u_33 6) 6 (hsz), (q_36, .inr (2, [.null, .int 0, .int 0]))] H := hP
  have hD : va_D A [oq6 t q_1 q_5 q_9 q_10 q_11 q_15 q_19 q_23 0 0, oq5 q_1 (u_4 0) (u_4 1) (u_4 2) (u_4 3) (u_4 4) (u_4 5) (u_4 6) 2 0 0 0 0 2 0 0, oqI k (u_4 0) 8 (hsw), oqI k (u_4 1) 4 (hsz), oqI k (u_4 2) 8 (hsz), oqI k (u_4 3) 8 (hsz), oqI k (u_4 4) 6 (hsz), oqI k (u_4 5) 6 (hsz), oqI k (u_4 6) 6 (hsz), oq5 q_5 (u_8 0) (u_8 1) (u_8 2) (u_8 3) (u_8 4) (u_8 5) (u_8 6) 2 0 0 0 0 2 0 0, oqI k (u_8 0) 8 (hsw), oqI k (u_8 1) 4 (hsz), oqI k (u_8 2) 8 (hsz), oqI k (u_8 3) 8 (hsz), oqI k (u_8 4) 6 (hsz), oqI k (u_8 5) 6 (hsz), oqI k (u_8 6) 6 (hsz), (q_9, .inl (k 4, 2, .inr (.inr (.inr (.inr (va_up (va_up (fun _ => none) 0 (some q_25)) 1 (some q_30))))))), oqB k q_10 2 (hsz), oq4 q_11 (u_14 0) (u_14 2) 0 0 0, oq3 (u_14 0) (u_14 1) 0 0 0 0 0, oqI k (u_14 1) 160 (hsz), oq5 (u_14 2) (u_14 3) (u_14 4) (u_14 5) (u_14 6) (u_14 7) (u_14 8) (u_14 9) 2 0 0 0 0 2 0 0, oqI k (u_14 3) 8 (hsw), oqI k (u_14 4) 4 (hsz), oqI k (u_14 5) 8 (hsz), oqI k (u_14 6) 8 (hsz), oqI k (u_14 7) 6 (hsz), oqI k (u_14 8) 6 (hsz), oqI k (u_14 9) 6 (hsz), oq1 q_15 (u_18 0) (u_18 1) 0, oqI k (u_18 0) 5 (hsz), oqI k (u_18 1) 32 (hsz), oq0 q_19 (u_22 0), oqL k (u_22 0) 5 (hszl), (q_23, .inl (k 3, 4, .inr (.inr (.inr (.inr (fun _ => none)))))), oq5 q_25 (u_28 0) (u_28 1) (u_28 2) (u_28 3) (u_28 4) (u_28 5) (u_28 6) 2 0 0 0 0 2 0 0, oqI k (u_28 0) 8 (hsw), oqI k (u_28 1) 4 (hsz), oqI k (u_28 2) 8 (hsz), oqI k (u_28 3) 8 (hsz), oqI k (u_28 4) 6 (hsz), oqI k (u_28 5) 6 (hsz), oqI k (u_28 6) 6 (hsz), oq5 q_30 (u_33 0) (u_33 1) (u_33 2) (u_33 3) (u_33 4) (u_33 5) (u_33 6) 2 0 0 0 0 2 0 0, oqI k (u_33 0) 8 (hsw), oqI k (u_33 1) 4 (hsz), oqI k (u_33 2) 8 (hsz), oqI k (u_33 3) 8 (hsz), oqI k (u_33 4) 6 (hsz), oqI k (u_33 5) 6 (hsz), oqI k (u_33 6) 6 (hsz), (q_36, .inr (2, [.null, .int 0, .int 0]))] := hD
  refine W.widen (k := 52) (n := 533) (Nat.le_of_ble_eq_true rfl) (Nat.le_of_ble_eq_true rfl) ?_
  refine lv_dup hx hb dX7_init_123 rfl ?_
  refine hs_cvM (va_runIN (As := []) (rest := [.ref q_36, .int 0, .ref q_23]) ⟨hx, hb, hml, hown, hts⟩ (c_Sheet_init l D k _ q_36) ⟨(va_cnB 0 hts gX7_init_X3_init_n54 rfl rfl rfl hN.2.2.2.2.1 iniX3 hq_X3_init ⟨Nat.le_of_ble_eq_true rfl, Nat.le_of_ble_eq_true rfl⟩), rfl, im_X3_init⟩ (hs_preS hK hN (hs_subP (w := [_]) hP [52] rfl) (hD.sub (ws' := [_]) [52] (hs_upnd rfl) rfl)) rfl rfl hl.1 rfl (lv_room (Nat.le_of_ble_eq_true rfl)) dX7_init_124 ⟨Nat.le_of_ble_eq_true rfl, Nat.le_of_ble_eq_true rfl⟩) hP hD hS hA [true, true, true, true, true, true, true, true, true, true, true, true, true, true, true, true, true, true, true, true, true, true, true, true, true, true, true, true, true, true, true, true, true, true, true, true, true, true, true, true, true, true, true, true, true, true, true, true, true, true, true, true, false] [_, _, _, _, _, _, _, _, _, _, _, _, _, _, _, _, _, _, _, _, _, _, _, _, _, _, _, _, _, _, _, _, _, _, _, _, _, _, _, _, _, _, _, _, _, _, _, _, _, _, _, _] [_] rfl [0] rfl [0, 1] (fun u_39 => [_, _]) (fun _ => rfl) (hs_upnd rfl) [true, true, true, true, true, true, true, true, true, true, true, true, true, true, true, true, true, true, true, true, true, true, true, true, true, true, true, true, true, true, true, true, true, true, true, true, true, true, true, true, true, true, true, true, true, true, true, true, true, true, true, true, false, false] (fun u_39 => [_, _, _, _, _, _, _, _, _, _, _, _, _, _, _, _, _, _, _, _, _, _, _, _, _, _, _, _, _, _, _, _, _, _, _, _, _, _, _, _, _, _, _, _, _, _, _, _, _, _, _, _, _, _]) (fun _ => rfl) (fun u_39 H locs hw_38 hP hD hS => ?_)
  refine W.widen (k := 53) (n := 573) (Nat.le_of_ble_eq_true rfl) (Nat.le_of_ble_eq_true rfl) ?_
  refine va_astq (ci := 2) hx hb hK hP hD hS 35 3 52 (r := (RX3, TX3, 3)) rfl rfl rfl rfl (hs_in (by decide)) dX7_init_127 (fun H locs hP hD hS => ?_)
  have hP : va_P D vwCl [_, _, _, _, _, _, _, _, _, _, _, _, _, _, _, _, _, _, _, _, _, _, _, _, _, _, _, _, _, _, _, _, _, _, _, (q_23, .inl (k 3, 4, .inr (.inr (.inr (.inr (va_up (fun _ => none) 0 (some q_36))))))), _, _, _, _, _, _, _, _, _, _, _, _, _, _, _, _, _, _] H := hP
  have hD : va_D A [_, _, _, _, _, _, _, _, _, _, _, _, _, _, _, _, _, _, _, _, _, _, _, _, _, _, _, _, _, _, _, _, _, _, _, (q_23, .inl (k 3, 4, .inr (.inr (.inr (.inr (va_up (fun _ => none) 0 (some q_36))))))), _, _, _, _, _, _, _, _, _, _, _, _, _, _, _, _, _, _] := hD
  refine lv_iinc (v := 1) (lv' := [(1, .int 1), (0, .ref t)]) hx hb dX7_init_128 hl (k := 0) rfl (by decide) (Nat.le_of_ble_eq_true rfl) rfl (fun ls hl => ?_)
  refine lv_goto (tgt := 110) hx hb dX7_init_131 rfl ?_
  refine lv_iload_n hx hb dX7_init_110 rfl (lv_at hl 0 rfl) ?_
  refine lv_iconst (v := 4) hx hb dX7_init_111 hki_4 ?_
  refine lv_icmp_ge (tgt := 134) hx hb dX7_init_112 rfl (fun c_40 => absurd c_40 (by decide)) (fun c_40 => ?_)
  refine lv_aload_n hx hb dX7_init_115 rfl (lv_at hl 1 rfl) ?_
  refine va_get (D := D) (ci := 6) (v := .ref q_23) (C := RX7) (T := TX7) (N := 10) hx hb hts hiX7 hown hK hP 0 rfl rfl 7 (Nat.le_of_ble_eq_true rfl) fl50 (fun _ h9 => h9) rfl dX7_init_116 ?_
  refine lv_iload_n hx hb dX7_init_119 rfl (lv_at hl 0 rfl) ?_
  refine va_new (ci := 2) (fs := [.null, .int 0, .int 0]) (C := RX3) (T := TX3) (N := 3) hx hb hts hiX3 tyX3 tyX3_ok hown cl48 inX3 iniX3 hK hP hD hS hA rfl nfX3 (Nat.le_of_ble_eq_true rfl) (Nat.le_of_ble_eq_true rfl) dX7_init_120 (fun q_41 H hP hD hS => ?_)
  have hP : va_P D vwCl [oq6 t q_1 q_5 q_9 q_10 q_11 q_15 q_19 q_23 0 0, oq5 q_1 (u_4 0) (u_4 1) (u_4 2) (u_4 3) (u_4 4) (u_4 5) (u_4 6) 2 0 0 0 0 2 0 0, oqI k (u_4 0) 8 (hsw), oqI k (u_4 1) 4 (hsz), oqI k (u_4 2) 8 (hsz), oqI k (u_4 3) 8 (hsz), oqI k (u_4 4) 6 (hsz), oqI k (u_4 5) 6 (hsz), oqI k (u_4 6) 6 (hsz), oq5 q_5 (u_8 0) (u_8 1) (u_8 2) (u_8 3) (u_8 4) (u_8 5) (u_8 6) 2 0 0 0 0 2 0 0, oqI k (u_8 0) 8 (hsw), oqI k (u_8 1) 4 (hsz), oqI k (u_8 2) 8 (hsz), oqI k (u_8 3) 8 (hsz), oqI k (u_8 4) 6 (hsz), oqI k (u_8 5) 6 (hsz), oqI k (u_8 6) 6 (hsz), (q_9, .inl (k 4, 2, .inr (.inr (.inr (.inr (va_up (va_up (fun _ => none) 0 (some q_25)) 1 (some q_30))))))), oqB k q_10 2 (hsz), oq4 q_11 (u_14 0) (u_14 2) 0 0 0, oq3 (u_14 0) (u_14 1) 0 0 0 0 0, oqI k (u_14 1) 160 (hsz), oq5 (u_14 2) (u_14 3) (u_14 4) (u_14 5) (u_14 6) (u_14 7) (u_14 8) (u_14 9) 2 0 0 0 0 2 0 0, oqI k (u_14 3) 8 (hsw), oqI k (u_14 4) 4 (hsz), oqI k (u_14 5) 8 (hsz), oqI k (u_14 6) 8 (hsz), oqI k (u_14 7) 6 (hsz), oqI k (u_14 8) 6 (hsz), oqI k (u_14 9) 6 (hsz), oq1 q_15 (u_18 0) (u_18 1) 0, oqI k (u_18 0) 5 (hsz), oqI k (u_18 1) 32 (hsz), oq0 q_19 (u_22 0), oqL k (u_22 0) 5 (hszl), (q_23, .inl (k 3, 4, .inr (.inr (.inr (.inr (va_up (fun _ => none) 0 (some q_36))))))), oq5 q_25 (u_28 0) (u_28 1) (u_28 2) (u_28 3) (u_28 4) (u_28 5) (u_28 6) 2 0 0 0 0 2 0 0, oqI k (u_28 0) 8 (hsw), oqI k (u_28 1) 4 (hsz), oqI k (u_28 2) 8 (hsz), oqI k (u_28 3) 8 (hsz), oqI k (u_28 4) 6 (hsz), oqI k (u_28 5) 6 (hsz), oqI k (u_28 6) 6 (hsz), oq5 q_30 (u_33 0) (u_33 1) (u_33 2) (u_33 3) (u_33 4) (u_33 5) (u_33 6) 2 0 0 0 0 2 0 0, oqI k (u_33 0) 8 (hsw), oqI k (u_33 1) 4 (hsz), oqI k (u_33 2) 8 (hsz), oqI k (u_33 3) 8 (hsz), oqI k (u_33 4) 6 (hsz), oqI k (u_33 5) 6 (hsz), oqI k (u_33 6) 6 (hsz), oq2 q_36 (u_39 0) (-1) 0, oqI k (u_39 0) 40 (hsz), (q_41, .inr (2, [.null, .int 0, .int 0]))] H := hP
  have hD : va_D A [oq6 t q_1 q_5 q_9 q_10 q_11 q_15 q_19 q_23 0 0, oq5 q_1 (u_4 0) (u_4 1) (u_4 2) (u_4 3) (u_4 4) (u_4 5) (u_4 6) 2 0 0 0 0 2 0 0, oqI k (u_4 0) 8 (hsw), oqI k (u_4 1) 4 (hsz), oqI k (u_4 2) 8 (hsz), oqI k (u_4 3) 8 (hsz), oqI k (u_4 4) 6 (hsz), oqI k (u_4 5) 6 (hsz), oqI k (u_4 6) 6 (hsz), oq5 q_5 (u_8 0) (u_8 1) (u_8 2) (u_8 3) (u_8 4) (u_8 5) (u_8 6) 2 0 0 0 0 2 0 0, oqI k (u_8 0) 8 (hsw), oqI k (u_8 1) 4 (hsz), oqI k (u_8 2) 8 (hsz), oqI k (u_8 3) 8 (hsz), oqI k (u_8 4) 6 (hsz), oqI k (u_8 5) 6 (hsz), oqI k (u_8 6) 6 (hsz), (q_9, .inl (k 4, 2, .inr (.inr (.inr (.inr (va_up (va_up (fun _ => none) 0 (some q_25)) 1 (some q_30))))))), oqB k q_10 2 (hsz), oq4 q_11 (u_14 0) (u_14 2) 0 0 0, oq3 (u_14 0) (u_14 1) 0 0 0 0 0, oqI k (u_14 1) 160 (hsz), oq5 (u_14 2) (u_14 3) (u_14 4) (u_14 5) (u_14 6) (u_14 7) (u_14 8) (u_14 9) 2 0 0 0 0 2 0 0, oqI k (u_14 3) 8 (hsw), oqI k (u_14 4) 4 (hsz), oqI k (u_14 5) 8 (hsz), oqI k (u_14 6) 8 (hsz), oqI k (u_14 7) 6 (hsz), oqI k (u_14 8) 6 (hsz), oqI k (u_14 9) 6 (hsz), oq1 q_15 (u_18 0) (u_18 1) 0, oqI k (u_18 0) 5 (hsz), oqI k (u_18 1) 32 (hsz), oq0 q_19 (u_22 0), oqL k (u_22 0) 5 (hszl), (q_23, .inl (k 3, 4, .inr (.inr (.inr (.inr (va_up (fun _ => none) 0 (some q_36))))))), oq5 q_25 (u_28 0) (u_28 1) (u_28 2) (u_28 3) (u_28 4) (u_28 5) (u_28 6) 2 0 0 0 0 2 0 0, oqI k (u_28 0) 8 (hsw), oqI k (u_28 1) 4 (hsz), oqI k (u_28 2) 8 (hsz), oqI k (u_28 3) 8 (hsz), oqI k (u_28 4) 6 (hsz), oqI k (u_28 5) 6 (hsz), oqI k (u_28 6) 6 (hsz), oq5 q_30 (u_33 0) (u_33 1) (u_33 2) (u_33 3) (u_33 4) (u_33 5) (u_33 6) 2 0 0 0 0 2 0 0, oqI k (u_33 0) 8 (hsw), oqI k (u_33 1) 4 (hsz), oqI k (u_33 2) 8 (hsz), oqI k (u_33 3) 8 (hsz), oqI k (u_33 4) 6 (hsz), oqI k (u_33 5) 6 (hsz), oqI k (u_33 6) 6 (hsz), oq2 q_36 (u_39 0) (-1) 0, oqI k (u_39 0) 40 (hsz), (q_41, .inr (2, [.null, .int 0, .int 0]))] := hD
  refine W.widen (k := 54) (n := 576) (Nat.le_of_ble_eq_true rfl) (Nat.le_of_ble_eq_true rfl) ?_
  refine lv_dup hx hb dX7_init_123 rfl ?_
  refine hs_cvM (va_runIN (As := []) (rest := [.ref q_41, .int 1, .ref q_23]) ⟨hx, hb, hml, hown, hts⟩ (c_Sheet_init l D k _ q_41) ⟨(va_cnB 0 hts gX7_init_X3_init_n54 rfl rfl rfl hN.2.2.2.2.1 iniX3 hq_X3_init ⟨Nat.le_of_ble_eq_true rfl, Nat.le_of_ble_eq_true rfl⟩), rfl, im_X3_init⟩ (hs_preS hK hN (hs_subP (w := [_]) hP [54] rfl) (hD.sub (ws' := [_]) [54] (hs_upnd rfl) rfl)) rfl rfl hl.1 rfl (lv_room (Nat.le_of_ble_eq_true rfl)) dX7_init_124 ⟨Nat.le_of_ble_eq_true rfl, Nat.le_of_ble_eq_true rfl⟩) hP hD hS hA [true, true, true, true, true, true, true, true, true, true, true, true, true, true, true, true, true, true, true, true, true, true, true, true, true, true, true, true, true, true, true, true, true, true, true, true, true, true, true, true, true, true, true, true, true, true, true, true, true, true, true, true, true, true, false] [_, _, _, _, _, _, _, _, _, _, _, _, _, _, _, _, _, _, _, _, _, _, _, _, _, _, _, _, _, _, _, _, _, _, _, _, _, _, _, _, _, _, _, _, _, _, _, _, _, _, _, _, _, _] [_] rfl [0] rfl [0, 1] (fun u_44 => [_, _]) (fun _ => rfl) (hs_upnd rfl) [true, true, true, true, true, true, true, true, true, true, true, true, true, true, true, true, true, true, true, true, true, true, true, true, true, true, true, true, true, true, true, true, true, true, true, true, true, true, true, true, true, true, true, true, true, true, true, true, true, true, true, true, true, true, false, false] (fun u_44 => [_, _, _, _, _, _, _, _, _, _, _, _, _, _, _, _, _, _, _, _, _, _, _, _, _, _, _, _, _, _, _, _, _, _, _, _, _, _, _, _, _, _, _, _, _, _, _, _, _, _, _, _, _, _, _, _]) (fun _ => rfl) (fun u_44 H locs hw_43 hP hD hS => ?_)
  refine W.widen (k := 55) (n := 616) (Nat.le_of_ble_eq_true rfl) (Nat.le_of_ble_eq_true rfl) ?_
  refine va_astq (ci := 2) hx hb hK hP hD hS 35 3 54 (r := (RX3, TX3, 3)) rfl rfl rfl rfl (hs_in (by decide)) dX7_init_127 (fun H locs hP hD hS => ?_)
  have hP : va_P D vwCl [_, _, _, _, _, _, _, _, _, _, _, _, _, _, _, _, _, _, _, _, _, _, _, _, _, _, _, _, _, _, _, _, _, _, _, (q_23, .inl (k 3, 4, .inr (.inr (.inr (.inr (va_up (va_up (fun _ => none) 0 (some q_36)) 1 (some q_41))))))), _, _, _, _, _, _, _, _, _, _, _, _, _, _, _, _, _, _, _, _] H := hP
  have hD : va_D A [_, _, _, _, _, _, _, _, _, _, _, _, _, _, _, _, _, _, _, _, _, _, _, _, _, _, _, _, _, _, _, _, _, _, _, (q_23, .inl (k 3, 4, .inr (.inr (.inr (.inr (va_up (va_up (fun _ => none) 0 (some q_36)) 1 (some q_41))))))), _, _, _, _, _, _, _, _, _, _, _, _, _, _, _, _, _, _, _, _] := hD
  refine lv_iinc (v := 2) (lv' := [(1, .int 2), (0, .ref t)]) hx hb dX7_init_128 hl (k := 0) rfl (by decide) (Nat.le_of_ble_eq_true rfl) rfl (fun ls hl => ?_)
  refine lv_goto (tgt := 110) hx hb dX7_init_131 rfl ?_
  refine lv_iload_n hx hb dX7_init_110 rfl (lv_at hl 0 rfl) ?_
  refine lv_iconst (v := 4) hx hb dX7_init_111 hki_4 ?_
  refine lv_icmp_ge (tgt := 134) hx hb dX7_init_112 rfl (fun c_45 => absurd c_45 (by decide)) (fun c_45 => ?_)
  refine lv_aload_n hx hb dX7_init_115 rfl (lv_at hl 1 rfl) ?_
  refine va_get (D := D) (ci := 6) (v := .ref q_23) (C := RX7) (T := TX7) (N := 10) hx hb hts hiX7 hown hK hP 0 rfl rfl 7 (Nat.le_of_ble_eq_true rfl) fl50 (fun _ h9 => h9) rfl dX7_init_116 ?_
  refine lv_iload_n hx hb dX7_init_119 rfl (lv_at hl 0 rfl) ?_
  refine va_new (ci := 2) (fs := [.null, .int 0, .int 0]) (C := RX3) (T := TX3) (N := 3) hx hb hts hiX3 tyX3 tyX3_ok hown cl48 inX3 iniX3 hK hP hD hS hA rfl nfX3 (Nat.le_of_ble_eq_true rfl) (Nat.le_of_ble_eq_true rfl) dX7_init_120 (fun q_46 H hP hD hS => ?_)
  have hP : va_P D vwCl [oq6 t q_1 q_5 q_9 q_10 q_11 q_15 q_19 q_23 0 0, oq5 q_1 (u_4 0) (u_4 1) (u_4 2) (u_4 3) (u_4 4) (u_4 5) (u_4 6) 2 0 0 0 0 2 0 0, oqI k (u_4 0) 8 (hsw), oqI k (u_4 1) 4 (hsz), oqI k (u_4 2) 8 (hsz), oqI k (u_4 3) 8 (hsz), oqI k (u_4 4) 6 (hsz), oqI k (u_4 5) 6 (hsz), oqI k (u_4 6) 6 (hsz), oq5 q_5 (u_8 0) (u_8 1) (u_8 2) (u_8 3) (u_8 4) (u_8 5) (u_8 6) 2 0 0 0 0 2 0 0, oqI k (u_8 0) 8 (hsw), oqI k (u_8 1) 4 (hsz), oqI k (u_8 2) 8 (hsz), oqI k (u_8 3) 8 (hsz), oqI k (u_8 4) 6 (hsz), oqI k (u_8 5) 6 (hsz), oqI k (u_8 6) 6 (hsz), (q_9, .inl (k 4, 2, .inr (.inr (.inr (.inr (va_up (va_up (fun _ => none) 0 (some q_25)) 1 (some q_30))))))), oqB k q_10 2 (hsz), oq4 q_11 (u_14 0) (u_14 2) 0 0 0, oq3 (u_14 0) (u_14 1) 0 0 0 0 0, oqI k (u_14 1) 160 (hsz), oq5 (u_14 2) (u_14 3) (u_14 4) (u_14 5) (u_14 6) (u_14 7) (u_14 8) (u_14 9) 2 0 0 0 0 2 0 0, oqI k (u_14 3) 8 (hsw), oqI k (u_14 4) 4 (hsz), oqI k (u_14 5) 8 (hsz), oqI k (u_14 6) 8 (hsz), oqI k (u_14 7) 6 (hsz), oqI k (u_14 8) 6 (hsz), oqI k (u_14 9) 6 (hsz), oq1 q_15 (u_18 0) (u_18 1) 0, oqI k (u_18 0) 5 (hsz), oqI k (u_18 1) 32 (hsz), oq0 q_19 (u_22 0), oqL k (u_22 0) 5 (hszl), (q_23, .inl (k 3, 4, .inr (.inr (.inr (.inr (va_up (va_up (fun _ => none) 0 (some q_36)) 1 (some q_41))))))), oq5 q_25 (u_28 0) (u_28 1) (u_28 2) (u_28 3) (u_28 4) (u_28 5) (u_28 6) 2 0 0 0 0 2 0 0, oqI k (u_28 0) 8 (hsw), oqI k (u_28 1) 4 (hsz), oqI k (u_28 2) 8 (hsz), oqI k (u_28 3) 8 (hsz), oqI k (u_28 4) 6 (hsz), oqI k (u_28 5) 6 (hsz), oqI k (u_28 6) 6 (hsz), oq5 q_30 (u_33 0) (u_33 1) (u_33 2) (u_33 3) (u_33 4) (u_33 5) (u_33 6) 2 0 0 0 0 2 0 0, oqI k (u_33 0) 8 (hsw), oqI k (u_33 1) 4 (hsz), oqI k (u_33 2) 8 (hsz), oqI k (u_33 3) 8 (hsz), oqI k (u_33 4) 6 (hsz), oqI k (u_33 5) 6 (hsz), oqI k (u_33 6) 6 (hsz), oq2 q_36 (u_39 0) (-1) 0, oqI k (u_39 0) 40 (hsz), oq2 q_41 (u_44 0) (-1) 0, oqI k (u_44 0) 40 (hsz), (q_46, .inr (2, [.null, .int 0, .int 0]))] H := hP
  have hD : va_D A [oq6 t q_1 q_5 q_9 q_10 q_11 q_15 q_19 q_23 0 0, oq5 q_1 (u_4 0) (u_4 1) (u_4 2) (u_4 3) (u_4 4) (u_4 5) (u_4 6) 2 0 0 0 0 2 0 0, oqI k (u_4 0) 8 (hsw), oqI k (u_4 1) 4 (hsz), oqI k (u_4 2) 8 (hsz), oqI k (u_4 3) 8 (hsz), oqI k (u_4 4) 6 (hsz), oqI k (u_4 5) 6 (hsz), oqI k (u_4 6) 6 (hsz), oq5 q_5 (u_8 0) (u_8 1) (u_8 2) (u_8 3) (u_8 4) (u_8 5) (u_8 6) 2 0 0 0 0 2 0 0, oqI k (u_8 0) 8 (hsw), oqI k (u_8 1) 4 (hsz), oqI k (u_8 2) 8 (hsz), oqI k (u_8 3) 8 (hsz), oqI k (u_8 4) 6 (hsz), oqI k (u_8 5) 6 (hsz), oqI k (u_8 6) 6 (hsz), (q_9, .inl (k 4, 2, .inr (.inr (.inr (.inr (va_up (va_up (fun _ => none) 0 (some q_25)) 1 (some q_30))))))), oqB k q_10 2 (hsz), oq4 q_11 (u_14 0) (u_14 2) 0 0 0, oq3 (u_14 0) (u_14 1) 0 0 0 0 0, oqI k (u_14 1) 160 (hsz), oq5 (u_14 2) (u_14 3) (u_14 4) (u_14 5) (u_14 6) (u_14 7) (u_14 8) (u_14 9) 2 0 0 0 0 2 0 0, oqI k (u_14 3) 8 (hsw), oqI k (u_14 4) 4 (hsz), oqI k (u_14 5) 8 (hsz), oqI k (u_14 6) 8 (hsz), oqI k (u_14 7) 6 (hsz), oqI k (u_14 8) 6 (hsz), oqI k (u_14 9) 6 (hsz), oq1 q_15 (u_18 0) (u_18 1) 0, oqI k (u_18 0) 5 (hsz), oqI k (u_18 1) 32 (hsz), oq0 q_19 (u_22 0), oqL k (u_22 0) 5 (hszl), (q_23, .inl (k 3, 4, .inr (.inr (.inr (.inr (va_up (va_up (fun _ => none) 0 (some q_36)) 1 (some q_41))))))), oq5 q_25 (u_28 0) (u_28 1) (u_28 2) (u_28 3) (u_28 4) (u_28 5) (u_28 6) 2 0 0 0 0 2 0 0, oqI k (u_28 0) 8 (hsw), oqI k (u_28 1) 4 (hsz), oqI k (u_28 2) 8 (hsz), oqI k (u_28 3) 8 (hsz), oqI k (u_28 4) 6 (hsz), oqI k (u_28 5) 6 (hsz), oqI k (u_28 6) 6 (hsz), oq5 q_30 (u_33 0) (u_33 1) (u_33 2) (u_33 3) (u_33 4) (u_33 5) (u_33 6) 2 0 0 0 0 2 0 0, oqI k (u_33 0) 8 (hsw), oqI k (u_33 1) 4 (hsz), oqI k (u_33 2) 8 (hsz), oqI k (u_33 3) 8 (hsz), oqI k (u_33 4) 6 (hsz), oqI k (u_33 5) 6 (hsz), oqI k (u_33 6) 6 (hsz), oq2 q_36 (u_39 0) (-1) 0, oqI k (u_39 0) 40 (hsz), oq2 q_41 (u_44 0) (-1) 0, oqI k (u_44 0) 40 (hsz), (q_46, .inr (2, [.null, .int 0, .int 0]))] := hD
  refine W.widen (k := 56) (n := 619) (Nat.le_of_ble_eq_true rfl) (Nat.le_of_ble_eq_true rfl) ?_
  refine lv_dup hx hb dX7_init_123 rfl ?_
  refine hs_cvM (va_runIN (As := []) (rest := [.ref q_46, .int 2, .ref q_23]) ⟨hx, hb, hml, hown, hts⟩ (c_Sheet_init l D k _ q_46) ⟨(va_cnB 0 hts gX7_init_X3_init_n54 rfl rfl rfl hN.2.2.2.2.1 iniX3 hq_X3_init ⟨Nat.le_of_ble_eq_true rfl, Nat.le_of_ble_eq_true rfl⟩), rfl, im_X3_init⟩ (hs_preS hK hN (hs_subP (w := [_]) hP [56] rfl) (hD.sub (ws' := [_]) [56] (hs_upnd rfl) rfl)) rfl rfl hl.1 rfl (lv_room (Nat.le_of_ble_eq_true rfl)) dX7_init_124 ⟨Nat.le_of_ble_eq_true rfl, Nat.le_of_ble_eq_true rfl⟩) hP hD hS hA [true, true, true, true, true, true, true, true, true, true, true, true, true, true, true, true, true, true, true, true, true, true, true, true, true, true, true, true, true, true, true, true, true, true, true, true, true, true, true, true, true, true, true, true, true, true, true, true, true, true, true, true, true, true, true, true, false] [_, _, _, _, _, _, _, _, _, _, _, _, _, _, _, _, _, _, _, _, _, _, _, _, _, _, _, _, _, _, _, _, _, _, _, _, _, _, _, _, _, _, _, _, _, _, _, _, _, _, _, _, _, _, _, _] [_] rfl [0] rfl [0, 1] (fun u_49 => [_, _]) (fun _ => rfl) (hs_upnd rfl) [true, true, true, true, true, true, true, true, true, true, true, true, true, true, true, true, true, true, true, true, true, true, true, true, true, true, true, true, true, true, true, true, true, true, true, true, true, true, true, true, true, true, true, true, true, true, true, true, true, true, true, true, true, true, true, true, false, false] (fun u_49 => [_, _, _, _, _, _, _, _, _, _, _, _, _, _, _, _, _, _, _, _, _, _, _, _, _, _, _, _, _, _, _, _, _, _, _, _, _, _, _, _, _, _, _, _, _, _, _, _, _, _, _, _, _, _, _, _, _, _]) (fun _ => rfl) (fun u_49 H locs hw_48 hP hD hS => ?_)
  refine W.widen (k := 57) (n := 659) (Nat.le_of_ble_eq_true rfl) (Nat.le_of_ble_eq_true rfl) ?_
  refine va_astq (ci := 2) hx hb hK hP hD hS 35 3 56 (r := (RX3, TX3, 3)) rfl rfl rfl rfl (hs_in (by decide)) dX7_init_127 (fun H locs hP hD hS => ?_)
  have hP : va_P D vwCl [_, _, _, _, _, _, _, _, _, _, _, _, _, _, _, _, _, _, _, _, _, _, _, _, _, _, _, _, _, _, _, _, _, _, _, (q_23, .inl (k 3, 4, .inr (.inr (.inr (.inr (va_up (va_up (va_up (fun _ => none) 0 (some q_36)) 1 (some q_41)) 2 (some q_46))))))), _, _, _, _, _, _, _, _, _, _, _, _, _, _, _, _, _, _, _, _, _, _] H := hP
  have hD : va_D A [_, _, _, _, _, _, _, _, _, _, _, _, _, _, _, _, _, _, _, _, _, _, _, _, _, _, _, _, _, _, _, _, _, _, _, (q_23, .inl (k 3, 4, .inr (.inr (.inr (.inr (va_up (va_up (va_up (fun _ => none) 0 (some q_36)) 1 (some q_41)) 2 (some q_46))))))), _, _, _, _, _, _, _, _, _, _, _, _, _, _, _, _, _, _, _, _, _, _] := hD
  refine lv_iinc (v := 3) (lv' := [(1, .int 3), (0, .ref t)]) hx hb dX7_init_128 hl (k := 0) rfl (by decide) (Nat.le_of_ble_eq_true rfl) rfl (fun ls hl => ?_)
  refine lv_goto (tgt := 110) hx hb dX7_init_131 rfl ?_
  refine lv_iload_n hx hb dX7_init_110 rfl (lv_at hl 0 rfl) ?_
  refine lv_iconst (v := 4) hx hb dX7_init_111 hki_4 ?_
  refine lv_icmp_ge (tgt := 134) hx hb dX7_init_112 rfl (fun c_50 => absurd c_50 (by decide)) (fun c_50 => ?_)
  refine lv_aload_n hx hb dX7_init_115 rfl (lv_at hl 1 rfl) ?_
  refine va_get (D := D) (ci := 6) (v := .ref q_23) (C := RX7) (T := TX7) (N := 10) hx hb hts hiX7 hown hK hP 0 rfl rfl 7 (Nat.le_of_ble_eq_true rfl) fl50 (fun _ h9 => h9) rfl dX7_init_116 ?_
  refine lv_iload_n hx hb dX7_init_119 rfl (lv_at hl 0 rfl) ?_
  refine va_new (ci := 2) (fs := [.null, .int 0, .int 0]) (C := RX3) (T := TX3) (N := 3) hx hb hts hiX3 tyX3 tyX3_ok hown cl48 inX3 iniX3 hK hP hD hS hA rfl nfX3 (Nat.le_of_ble_eq_true rfl) (Nat.le_of_ble_eq_true rfl) dX7_init_120 (fun q_51 H hP hD hS => ?_)
  have hP : va_P D vwCl [oq6 t q_1 q_5 q_9 q_10 q_11 q_15 q_19 q_23 0 0, oq5 q_1 (u_4 0) (u_4 1) (u_4 2) (u_4 3) (u_4 4) (u_4 5) (u_4 6) 2 0 0 0 0 2 0 0, oqI k (u_4 0) 8 (hsw), oqI k (u_4 1) 4 (hsz), oqI k (u_4 2) 8 (hsz), oqI k (u_4 3) 8 (hsz), oqI k (u_4 4) 6 (hsz), oqI k (u_4 5) 6 (hsz), oqI k (u_4 6) 6 (hsz), oq5 q_5 (u_8 0) (u_8 1) (u_8 2) (u_8 3) (u_8 4) (u_8 5) (u_8 6) 2 0 0 0 0 2 0 0, oqI k (u_8 0) 8 (hsw), oqI k (u_8 1) 4 (hsz), oqI k (u_8 2) 8 (hsz), oqI k (u_8 3) 8 (hsz), oqI k (u_8 4) 6 (hsz), oqI k (u_8 5) 6 (hsz), oqI k (u_8 6) 6 (hsz), (q_9, .inl (k 4, 2, .inr (.inr (.inr (.inr (va_up (va_up (fun _ => none) 0 (some q_25)) 1 (some q_30))))))), oqB k q_10 2 (hsz), oq4 q_11 (u_14 0) (u_14 2) 0 0 0, oq3 (u_14 0) (u_14 1) 0 0 0 0 0, oqI k (u_14 1) 160 (hsz), oq5 (u_14 2) (u_14 3) (u_14 4) (u_14 5) (u_14 6) (u_14 7) (u_14 8) (u_14 9) 2 0 0 0 0 2 0 0, oqI k (u_14 3) 8 (hsw), oqI k (u_14 4) 4 (hsz), oqI k (u_14 5) 8 (hsz), oqI k (u_14 6) 8 (hsz), oqI k (u_14 7) 6 (hsz), oqI k (u_14 8) 6 (hsz), oqI k (u_14 9) 6 (hsz), oq1 q_15 (u_18 0) (u_18 1) 0, oqI k (u_18 0) 5 (hsz), oqI k (u_18 1) 32 (hsz), oq0 q_19 (u_22 0), oqL k (u_22 0) 5 (hszl), (q_23, .inl (k 3, 4, .inr (.inr (.inr (.inr (va_up (va_up (va_up (fun _ => none) 0 (some q_36)) 1 (some q_41)) 2 (some q_46))))))), oq5 q_25 (u_28 0) (u_28 1) (u_28 2) (u_28 3) (u_28 4) (u_28 5) (u_28 6) 2 0 0 0 0 2 0 0, oqI k (u_28 0) 8 (hsw), oqI k (u_28 1) 4 (hsz), oqI k (u_28 2) 8 (hsz), oqI k (u_28 3) 8 (hsz), oqI k (u_28 4) 6 (hsz), oqI k (u_28 5) 6 (hsz), oqI k (u_28 6) 6 (hsz), oq5 q_30 (u_33 0) (u_33 1) (u_33 2) (u_33 3) (u_33 4) (u_33 5) (u_33 6) 2 0 0 0 0 2 0 0, oqI k (u_33 0) 8 (hsw), oqI k (u_33 1) 4 (hsz), oqI k (u_33 2) 8 (hsz), oqI k (u_33 3) 8 (hsz), oqI k (u_33 4) 6 (hsz), oqI k (u_33 5) 6 (hsz), oqI k (u_33 6) 6 (hsz), oq2 q_36 (u_39 0) (-1) 0, oqI k (u_39 0) 40 (hsz), oq2 q_41 (u_44 0) (-1) 0, oqI k (u_44 0) 40 (hsz), oq2 q_46 (u_49 0) (-1) 0, oqI k (u_49 0) 40 (hsz), (q_51, .inr (2, [.null, .int 0, .int 0]))] H := hP
  have hD : va_D A [oq6 t q_1 q_5 q_9 q_10 q_11 q_15 q_19 q_23 0 0, oq5 q_1 (u_4 0) (u_4 1) (u_4 2) (u_4 3) (u_4 4) (u_4 5) (u_4 6) 2 0 0 0 0 2 0 0, oqI k (u_4 0) 8 (hsw), oqI k (u_4 1) 4 (hsz), oqI k (u_4 2) 8 (hsz), oqI k (u_4 3) 8 (hsz), oqI k (u_4 4) 6 (hsz), oqI k (u_4 5) 6 (hsz), oqI k (u_4 6) 6 (hsz), oq5 q_5 (u_8 0) (u_8 1) (u_8 2) (u_8 3) (u_8 4) (u_8 5) (u_8 6) 2 0 0 0 0 2 0 0, oqI k (u_8 0) 8 (hsw), oqI k (u_8 1) 4 (hsz), oqI k (u_8 2) 8 (hsz), oqI k (u_8 3) 8 (hsz), oqI k (u_8 4) 6 (hsz), oqI k (u_8 5) 6 (hsz), oqI k (u_8 6) 6 (hsz), (q_9, .inl (k 4, 2, .inr (.inr (.inr (.inr (va_up (va_up (fun _ => none) 0 (some q_25)) 1 (some q_30))))))), oqB k q_10 2 (hsz), oq4 q_11 (u_14 0) (u_14 2) 0 0 0, oq3 (u_14 0) (u_14 1) 0 0 0 0 0, oqI k (u_14 1) 160 (hsz), oq5 (u_14 2) (u_14 3) (u_14 4) (u_14 5) (u_14 6) (u_14 7) (u_14 8) (u_14 9) 2 0 0 0 0 2 0 0, oqI k (u_14 3) 8 (hsw), oqI k (u_14 4) 4 (hsz), oqI k (u_14 5) 8 (hsz), oqI k (u_14 6) 8 (hsz), oqI k (u_14 7) 6 (hsz), oqI k (u_14 8) 6 (hsz), oqI k (u_14 9) 6 (hsz), oq1 q_15 (u_18 0) (u_18 1) 0, oqI k (u_18 0) 5 (hsz), oqI k (u_18 1) 32 (hsz), oq0 q_19 (u_22 0), oqL k (u_22 0) 5 (hszl), (q_23, .inl (k 3, 4, .inr (.inr (.inr (.inr (va_up (va_up (va_up (fun _ => none) 0 (some q_36)) 1 (some q_41)) 2 (some q_46))))))), oq5 q_25 (u_28 0) (u_28 1) (u_28 2) (u_28 3) (u_28 4) (u_28 5) (u_28 6) 2 0 0 0 0 2 0 0, oqI k (u_28 0) 8 (hsw), oqI k (u_28 1) 4 (hsz), oqI k (u_28 2) 8 (hsz), oqI k (u_28 3) 8 (hsz), oqI k (u_28 4) 6 (hsz), oqI k (u_28 5) 6 (hsz), oqI k (u_28 6) 6 (hsz), oq5 q_30 (u_33 0) (u_33 1) (u_33 2) (u_33 3) (u_33 4) (u_33 5) (u_33 6) 2 0 0 0 0 2 0 0, oqI k (u_33 0) 8 (hsw), oqI k (u_33 1) 4 (hsz), oqI k (u_33 2) 8 (hsz), oqI k (u_33 3) 8 (hsz), oqI k (u_33 4) 6 (hsz), oqI k (u_33 5) 6 (hsz), oqI k (u_33 6) 6 (hsz), oq2 q_36 (u_39 0) (-1) 0, oqI k (u_39 0) 40 (hsz), oq2 q_41 (u_44 0) (-1) 0, oqI k (u_44 0) 40 (hsz), oq2 q_46 (u_49 0) (-1) 0, oqI k (u_49 0) 40 (hsz), (q_51, .inr (2, [.null, .int 0, .int 0]))] := hD
  refine W.widen (k := 58) (n := 662) (Nat.le_of_ble_eq_true rfl) (Nat.le_of_ble_eq_true rfl) ?_
  refine lv_dup hx hb dX7_init_123 rfl ?_
  refine hs_cvM (va_runIN (As := []) (rest := [.ref q_51, .int 3, .ref q_23]) ⟨hx, hb, hml, hown, hts⟩ (c_Sheet_init l D k _ q_51) ⟨(va_cnB 0 hts gX7_init_X3_init_n54 rfl rfl rfl hN.2.2.2.2.1 iniX3 hq_X3_init ⟨Nat.le_of_ble_eq_true rfl, Nat.le_of_ble_eq_true rfl⟩), rfl, im_X3_init⟩ (hs_preS hK hN (hs_subP (w := [_]) hP [58] rfl) (hD.sub (ws' := [_]) [58] (hs_upnd rfl) rfl)) rfl rfl hl.1 rfl (lv_room (Nat.le_of_ble_eq_true rfl)) dX7_init_124 ⟨Nat.le_of_ble_eq_true rfl, Nat.le_of_ble_eq_true rfl⟩) hP hD hS hA [true, true, true, true, true, true, true, true, true, true, true, true, true, true, true, true, true, true, true, true, true, true, true, true, true, true, true, true, true, true, true, true, true, true, true, true, true, true, true, true, true, true, true, true, true, true, true, true, true, true, true, true, true, true, true, true, true, true, false] [_, _, _, _, _, _, _, _, _, _, _, _, _, _, _, _, _, _, _, _, _, _, _, _, _, _, _, _, _, _, _, _, _, _, _, _, _, _, _, _, _, _, _, _, _, _, _, _, _, _, _, _, _, _, _, _, _, _] [_] rfl [0] rfl [0, 1] (fun u_54 => [_, _]) (fun _ => rfl) (hs_upnd rfl) [true, true, true, true, true, true, true, true, true, true, true, true, true, true, true, true, true, true, true, true, true, true, true, true, true, true, true, true, true, true, true, true, true, true, true, true, true, true, true, true, true, true, true, true, true, true, true, true, true, true, true, true, true, true, true, true, true, true, false, false] (fun u_54 => [_, _, _, _, _, _, _, _, _, _, _, _, _, _, _, _, _, _, _, _, _, _, _, _, _, _, _, _, _, _, _, _, _, _, _, _, _, _, _, _, _, _, _, _, _, _, _, _, _, _, _, _, _, _, _, _, _, _, _, _]) (fun _ => rfl) (fun u_54 H locs hw_53 hP hD hS => ?_)
  refine W.widen (k := 59) (n := 702) (Nat.le_of_ble_eq_true rfl) (Nat.le_of_ble_eq_true rfl) ?_
  refine va_astq (ci := 2) hx hb hK hP hD hS 35 3 58 (r := (RX3, TX3, 3)) rfl rfl rfl rfl (hs_in (by decide)) dX7_init_127 (fun H locs hP hD hS => ?_)
  have hP : va_P D vwCl [_, _, _, _, _, _, _, _, _, _, _, _, _, _, _, _, _, _, _, _, _, _, _, _, _, _, _, _, _, _, _, _, _, _, _, (q_23, .inl (k 3, 4, .inr (.inr (.inr (.inr (va_up (va_up (va_up (va_up (fun _ => none) 0 (some q_36)) 1 (some q_41)) 2 (some q_46)) 3 (some q_51))))))), _, _, _, _, _, _, _, _, _, _, _, _, _, _, _, _, _, _, _, _, _, _, _, _] H := hP
  have hD : va_D A [_, _, _, _, _, _, _, _, _, _, _, _, _, _, _, _, _, _, _, _, _, _, _, _, _, _, _, _, _, _, _, _, _, _, _, (q_23, .inl (k 3, 4, .inr (.inr (.inr (.inr (va_up (va_up (va_up (va_up (fun _ => none) 0 (some q_36)) 1 (some q_41)) 2 (some q_46)) 3 (some q_51))))))), _, _, _, _, _, _, _, _, _, _, _, _, _, _, _, _, _, _, _, _, _, _, _, _] := hD
  refine lv_iinc (v := 4) (lv' := [(1, .int 4), (0, .ref t)]) hx hb dX7_init_128 hl (k := 0) rfl (by decide) (Nat.le_of_ble_eq_true rfl) rfl (fun ls hl => ?_)
  refine lv_goto (tgt := 110) hx hb dX7_init_131 rfl ?_
  refine lv_iload_n hx hb dX7_init_110 rfl (lv_at hl 0 rfl) ?_
  refine lv_iconst (v := 4) hx hb dX7_init_111 hki_4 ?_
  refine lv_icmp_ge (tgt := 134) hx hb dX7_init_112 rfl (fun c_55 => ?_) (fun c_55 => absurd c_55 (by decide))
  refine W.widen (k := 59) (n := 702) (Nat.le_of_ble_eq_true rfl) (Nat.le_of_ble_eq_true rfl) ?_
  exact hs_vret hx hb hr hlocks hK hP hD hS (fun i => ([q_1, (u_4 0), (u_4 1), (u_4 2), (u_4 3), (u_4 4), (u_4 5), (u_4 6), q_5, (u_8 0), (u_8 1), (u_8 2), (u_8 3), (u_8 4), (u_8 5), (u_8 6), q_9, q_10, q_11, (u_14 0), (u_14 1), (u_14 2), (u_14 3), (u_14 4), (u_14 5), (u_14 6), (u_14 7), (u_14 8), (u_14 9), q_15, (u_18 0), (u_18 1), q_19, (u_22 0), q_23, q_25, (u_28 0), (u_28 1), (u_28 2), (u_28 3), (u_28 4), (u_28 5), (u_28 6), q_30, (u_33 0), (u_33 1), (u_33 2), (u_33 3), (u_33 4), (u_33 5), (u_33 6), q_36, (u_39 0), q_41, (u_44 0), q_46, (u_49 0), q_51, (u_54 0)] : List Nat).getD i 0) [0, 1, 2, 3, 4, 5, 6, 7, 8, 9, 10, 11, 12, 13, 14, 15, 16, 17, 18, 19, 20, 21, 22, 23, 24, 25, 26, 27, 28, 29, 30, 31, 32, 33, 34, 35, 36, 37, 38, 39, 40, 41, 42, 43, 44, 45, 46, 47, 48, 49, 50, 51, 52, 53, 54, 55, 56, 57, 58, 59] rfl (hs_upnd rfl) dX7_init_134 (trivial)

set_option maxHeartbeats 4000000 in
set_option maxRecDepth 100000 in
theorem m_firstDraft_z (l : Launch) (D : va_G) (k : Nat → ClassId) (sz : Nat) (mo : Nat) (mo_st : Nat) (mo_at : Nat) (mo_isKept : Nat) (mo_people : Int32) (mo_halfMany : Int32) (mo_draft : Nat) (mo_dPeople : Int32) (mo_dHalves : Int32) (mo_toldLines : Int32) (mo_highest : Int32) (mo_tape : Nat) (mo_taped : Int32) (mo_pos : Int32) (mo_from : Int32) (mo_sort : Int32) (mo_value : Int32) (mo_fault : Int32) (mo_wrongAt : Int32) (mo_row : Nat) (mo_orderMany : Int32) (mo_firstOrder : Int32) (mo_lightest : Int32) (mo_heaviest : Int32) (mo_before : Nat) (mo_justSum : Int64) (mo_toldSum : Int64) (mo_allWays : Int64) (mo_lanes : Nat) (mo_sizes : Nat) (mo_cells : Nat) (mo_torn : Int32) (mo_had : Nat)  : MV l yX8_firstDraft wsX8_firstDraft ({ frames := 0, cells := 0, slots := 0, locals := 0 }) D k [.ref mo] [oq7 mo mo_st mo_at mo_isKept mo_people mo_halfMany mo_draft mo_dPeople mo_dHalves mo_toldLines mo_highest mo_tape mo_taped mo_pos mo_from mo_sort mo_value mo_fault mo_wrongAt mo_row mo_orderMany mo_firstOrder mo_lightest mo_heaviest mo_before mo_justSum mo_toldSum mo_allWays mo_lanes mo_sizes mo_cells mo_torn mo_had, oqI k mo_draft 44 (hsz)] sz (fun (u : Unit) => True) (fun (u : Unit) => [oq7 mo mo_st mo_at mo_isKept mo_people mo_halfMany mo_draft 0 2 0 (-4) mo_tape mo_taped mo_pos mo_from mo_sort mo_value mo_fault mo_wrongAt mo_row mo_orderMany mo_firstOrder mo_lightest mo_heaviest mo_before mo_justSum mo_toldSum mo_allWays mo_lanes mo_sizes mo_cells mo_torn mo_had, oqI k mo_draft 44 (hst)]) := by
  refine Met.ofW (cc := cX8_firstDraft) (maxL := 2) (ret := none) hpn_X8 rfl ?_
  intro p e s m args below meth c s₁ B hml hv
  obtain ⟨rfl, hsz, hP, hK, hD0, hN⟩ := hv
  have hx := B.exec
  have hb := B.bytes
  have hr := B.returns
  have hlocks := B.notSynchronized
  have hts := atoms_spec (ws := wsX8_firstDraft) B.pre
  have hown := findClass_of_methodNamed B.named
  have hown : s.vm.findClass RX8 = some m.cls := hown
  have hiX8 : ∀ w ∈ u_ws RX8 TX8 32, w ∈ wsX8_firstDraft := fun w9 hw9 => List.mem_cons_of_mem _ (igX8 w9 hw9)
  have fl20 := hts (.fieldLink RX8 20 "HalfScalesModel" "draft" "[I") (List.mem_cons_of_mem _ (hs_inG 4 85 rfl rfl))
  have fl50 := hts (.fieldLink RX8 50 "HalfScalesModel" "dPeople" "I") (List.mem_cons_of_mem _ (hs_inG 4 86 rfl rfl))
  have fl54 := hts (.fieldLink RX8 54 "HalfScalesModel" "dHalves" "I") (List.mem_cons_of_mem _ (hs_inG 4 87 rfl rfl))
  have fl57 := hts (.fieldLink RX8 57 "HalfScalesModel" "toldLines" "I") (List.mem_cons_of_mem _ (hs_inG 4 88 rfl rfl))
  have fl60 := hts (.fieldLink RX8 60 "HalfScalesModel" "highest" "I") (List.mem_cons_of_mem _ (hs_inG 4 89 rfl rfl))
  subst hsz
  have hD := hD0.self (sz := s.heap.size)
  generalize hAe : va_A [oq7 mo mo_st mo_at mo_isKept mo_people mo_halfMany mo_draft mo_dPeople mo_dHalves mo_toldLines mo_highest mo_tape mo_taped mo_pos mo_from mo_sort mo_value mo_fault mo_wrongAt mo_row mo_orderMany mo_firstOrder mo_lightest mo_heaviest mo_before mo_justSum mo_toldSum mo_allWays mo_lanes mo_sizes mo_cells mo_torn mo_had, oqI k mo_draft 44 (hsz)] s.heap.size = A at hD ⊢
  have hA : ∀ q : Nat, s.heap.size ≤ q → A q := fun q h => by rw [← hAe]; exact Or.inr h
  have hS : va_S A s.heap s.heap [] := va_S.rf
  have hl := lv_entry ([.ref mo]) (n := 2) (Nat.le_of_ble_eq_true rfl)
  rw [lg_entry_eq]
  generalize (lg_sl ([.ref mo]) ++ List.replicate (2 - (lg_sl ([.ref mo])).length) Slot.unset).toArray = ls at hl ⊢
  have hl : lv_has ls 2 [(0, .ref mo)] := hl
  have hP : va_P D vwCl [oq7 mo mo_st mo_at mo_isKept mo_people mo_halfMany mo_draft mo_dPeople mo_dHalves mo_toldLines mo_highest mo_tape mo_taped mo_pos mo_from mo_sort mo_value mo_fault mo_wrongAt mo_row mo_orderMany mo_firstOrder mo_lightest mo_heaviest mo_before mo_justSum mo_toldSum mo_allWays mo_lanes mo_sizes mo_cells mo_torn mo_had, oqI k mo_draft 44 (hsz)] s.heap := hP
  refine lv_iconst (v := 0) hx hb dX8_firstDraft_0 hki_0 ?_
  refine lv_istore_n (lv' := [(1, .int 0), (0, .ref mo)]) hx hb dX8_firstDraft_1 rfl hl (Nat.le_of_ble_eq_true rfl) rfl (fun ls hl => ?_)
  refine hs_for 44 (fun i => [oq7 mo mo_st mo_at mo_isKept mo_people mo_halfMany mo_draft mo_dPeople mo_dHalves mo_toldLines mo_highest mo_tape mo_taped mo_pos mo_from mo_sort mo_value mo_fault mo_wrongAt mo_row mo_orderMany mo_firstOrder mo_lightest mo_heaviest mo_before mo_justSum mo_toldSum mo_allWays mo_lanes mo_sizes mo_cells mo_torn mo_had, oqI k mo_draft 44 (hsfill hsz hsz i)]) (fun i => [(1, .int (nI i)), (0, .ref mo)]) ?_ ?_ (by rw [hsfill_0]; exact hP) (by rw [hsfill_0]; exact hD) hS hl
  · intro i hi ih H locs ls hP hD hS hl
    refine lv_iload_n hx hb dX8_firstDraft_2 rfl (lv_at hl 0 rfl) ?_
    refine lv_bipush (v := 44) hx hb dX8_firstDraft_3 hkb_44 ?_
    refine lv_icmp_ge (tgt := 21) hx hb dX8_firstDraft_5 rfl (fun c_1 => absurd c_1 (nI_ge (show i < 44 by omega) (by decide))) (fun c_1 => ?_)
    refine lv_aload_n hx hb dX8_firstDraft_8 rfl (lv_at hl 1 rfl) ?_
    refine va_get (D := D) (ci := 7) (v := .ref mo_draft) (C := RX8) (T := TX8) (N := 32) hx hb hts hiX8 hown hK hP 0 rfl rfl 5 (Nat.le_of_ble_eq_true rfl) fl20 (fun _ h9 => h9) rfl dX8_firstDraft_9 ?_
    refine lv_iload_n hx hb dX8_firstDraft_12 rfl (lv_at hl 0 rfl) ?_
    refine lv_iconst (v := 0) hx hb dX8_firstDraft_13 hki_0 ?_
    refine va_iast hx hb hK hP hD hS 1 0 rfl rfl (vp_in_nI (show i < 44 by omega) (by decide)) dX8_firstDraft_14 (fun H locs hP hD hS => ?_)
    have hE : upd (hsfill hsz hsz i) ((nI i).toNatClampNeg) 0 = hsfill hsz hsz (i + 1) := by rw [nI_clamp (show i < 2 ^ 31 by omega)]; exact hsfill_s hsz hsz i
    have hP : va_P D vwCl [oq7 mo mo_st mo_at mo_isKept mo_people mo_halfMany mo_draft mo_dPeople mo_dHalves mo_toldLines mo_highest mo_tape mo_taped mo_pos mo_from mo_sort mo_value mo_fault mo_wrongAt mo_row mo_orderMany mo_firstOrder mo_lightest mo_heaviest mo_before mo_justSum mo_toldSum mo_allWays mo_lanes mo_sizes mo_cells mo_torn mo_had, oqI k mo_draft 44 (upd (hsfill hsz hsz i) ((nI i).toNatClampNeg) 0)] H := hP
    have hD : va_D A [oq7 mo mo_st mo_at mo_isKept mo_people mo_halfMany mo_draft mo_dPeople mo_dHalves mo_toldLines mo_highest mo_tape mo_taped mo_pos mo_from mo_sort mo_value mo_fault mo_wrongAt mo_row mo_orderMany mo_firstOrder mo_lightest mo_heaviest mo_before mo_justSum mo_toldSum mo_allWays mo_lanes mo_sizes mo_cells mo_torn mo_had, oqI k mo_draft 44 (upd (hsfill hsz hsz i) ((nI i).toNatClampNeg) 0)] := hD
    rw [hE] at hP hD
    refine lv_iinc (v := nI (i + 1)) (lv' := [(1, .int (nI (i + 1))), (0, .ref mo)]) hx hb dX8_firstDraft_15 hl (k := 0) rfl (by rw [nI_succ]; rfl) (Nat.le_of_ble_eq_true rfl) rfl (fun ls hl => ?_)
    refine lv_goto (tgt := 2) hx hb dX8_firstDraft_18 rfl ?_
    exact ih _ _ _ hP hD hS (lv_sub hl [0, 1] rfl)
  · intro H locs ls hP hD hS hl
    have hE : hsfill hsz hsz 44 = hsz := hsfill_z _
    have hP : va_P D vwCl [_, oqI k mo_draft 44 (hsfill hsz hsz 44)] H := hP
    have hD : va_D A [_, oqI k mo_draft 44 (hsfill hsz hsz 44)] := hD
    rw [hE] at hP hD
    refine lv_iload_n hx hb dX8_firstDraft_2 rfl (lv_at hl 0 rfl) ?_
    refine lv_bipush (v := 44) hx hb dX8_firstDraft_3 hkb_44 ?_
    refine lv_icmp_ge (tgt := 21) hx hb dX8_firstDraft_5 rfl (fun c_2 => ?_) (fun c_2 => absurd (show (44 : Int32) ≤ nI 44 by decide) c_2)
    refine lv_aload_n hx hb dX8_firstDraft_21 rfl (lv_at hl 1 rfl) ?_
    refine va_get (D := D) (ci := 7) (v := .ref mo_draft) (C := RX8) (T := TX8) (N := 32) hx hb hts hiX8 hown hK hP 0 rfl rfl 5 (Nat.le_of_ble_eq_true rfl) fl20 (fun _ h9 => h9) rfl dX8_firstDraft_22 ?_
    refine lv_iconst (v := 0) hx hb dX8_firstDraft_25 hki_0 ?_
    refine lv_iconst (v := 2) hx hb dX8_firstDraft_26 hki_2 ?_
    refine va_iast hx hb hK hP hD hS 1 0 rfl rfl (hs_in (by decide)) dX8_firstDraft_27 (fun H locs hP hD hS => ?_)
    have hP : va_P D vwCl [_, oqI k mo_draft 44 (upd hsz 0 2)] H := hP
    have hD : va_D A [_, oqI k mo_draft 44 (upd hsz 0 2)] := hD
    refine lv_aload_n hx hb dX8_firstDraft_28 rfl (lv_at hl 1 rfl) ?_
    refine va_get (D := D) (ci := 7) (v := .ref mo_draft) (C := RX8) (T := TX8) (N := 32) hx hb hts hiX8 hown hK hP 0 rfl rfl 5 (Nat.le_of_ble_eq_true rfl) fl20 (fun _ h9 => h9) rfl dX8_firstDraft_29 ?_
    refine lv_iconst (v := 1) hx hb dX8_firstDraft_32 hki_1 ?_
    refine lv_iconst (v := 1) hx hb dX8_firstDraft_33 hki_1 ?_
    refine va_iast hx hb hK hP hD hS 1 0 rfl rfl (hs_in (by decide)) dX8_firstDraft_34 (fun H locs hP hD hS => ?_)
    have hP : va_P D vwCl [_, oqI k mo_draft 44 (upd (upd hsz 0 2) 1 1)] H := hP
    have hD : va_D A [_, oqI k mo_draft 44 (upd (upd hsz 0 2) 1 1)] := hD
    refine lv_aload_n hx hb dX8_firstDraft_35 rfl (lv_at hl 1 rfl) ?_
    refine va_get (D := D) (ci := 7) (v := .ref mo_draft) (C := RX8) (T := TX8) (N := 32) hx hb hts hiX8 hown hK hP 0 rfl rfl 5 (Nat.le_of_ble_eq_true rfl) fl20 (fun _ h9 => h9) rfl dX8_firstDraft_36 ?_
    refine lv_iconst (v := 2) hx hb dX8_firstDraft_39 hki_2 ?_
    refine lv_iconst (v := 1) hx hb dX8_firstDraft_40 hki_1 ?_
    refine va_iast hx hb hK hP hD hS 1 0 rfl rfl (hs_in (by decide)) dX8_firstDraft_41 (fun H locs hP hD hS => ?_)
    have hE : upd (upd (upd hsz 0 2) 1 1) 2 1 = hst := rfl
    have hP : va_P D vwCl [_, oqI k mo_draft 44 (upd (upd (upd hsz 0 2) 1 1) 2 1)] H := hP
    have hD : va_D A [_, oqI k mo_draft 44 (upd (upd (upd hsz 0 2) 1 1) 2 1)] := hD
    rw [hE] at hP hD
    refine lv_aload_n hx hb dX8_firstDraft_42 rfl (lv_at hl 1 rfl) ?_
    refine lv_iconst (v := 0) hx hb dX8_firstDraft_43 hki_0 ?_
    refine va_put (D := D) (ci := 7) (v := .int 0) (ty := .int) (C := RX8) (T := TX8) (N := 32) hx hb hts hiX8 tyX8 tyX8_ok nmX8 hown hK hP hD hS 0 rfl rfl 6 (Nat.le_of_ble_eq_true rfl) fl50 (fun _ h9 => h9) rfl (by decide +kernel) rfl rfl (Nat.le_of_ble_eq_true rfl) dX8_firstDraft_44 (fun H locs hP hD hS => ?_)
    have hP : va_P D vwCl [oq7 mo mo_st mo_at mo_isKept mo_people mo_halfMany mo_draft 0 mo_dHalves mo_toldLines mo_highest mo_tape mo_taped mo_pos mo_from mo_sort mo_value mo_fault mo_wrongAt mo_row mo_orderMany mo_firstOrder mo_lightest mo_heaviest mo_before mo_justSum mo_toldSum mo_allWays mo_lanes mo_sizes mo_cells mo_torn mo_had, oqI k mo_draft 44 (hst)] H := hP
    have hD : va_D A [oq7 mo mo_st mo_at mo_isKept mo_people mo_halfMany mo_draft 0 mo_dHalves mo_toldLines mo_highest mo_tape mo_taped mo_pos mo_from mo_sort mo_value mo_fault mo_wrongAt mo_row mo_orderMany mo_firstOrder mo_lightest mo_heaviest mo_before mo_justSum mo_toldSum mo_allWays mo_lanes mo_sizes mo_cells mo_torn mo_had, oqI k mo_draft 44 (hst)] := hD
    refine lv_aload_n hx hb dX8_firstDraft_47 rfl (lv_at hl 1 rfl) ?_
    refine lv_iconst (v := 2) hx hb dX8_firstDraft_48 hki_2 ?_
    refine va_put (D := D) (ci := 7) (v := .int 2) (ty := .int) (C := RX8) (T := TX8) (N := 32) hx hb hts hiX8 tyX8 tyX8_ok nmX8 hown hK hP hD hS 0 rfl rfl 7 (Nat.le_of_ble_eq_true rfl) fl54 (fun _ h9 => h9) rfl (by decide +kernel) rfl rfl (Nat.le_of_ble_eq_true rfl) dX8_firstDraft_49 (fun H locs hP hD hS => ?_)
    have hP : va_P D vwCl [oq7 mo mo_st mo_at mo_isKept mo_people mo_halfMany mo_draft 0 2 mo_toldLines mo_highest mo_tape mo_taped mo_pos mo_from mo_sort mo_value mo_fault mo_wrongAt mo_row mo_orderMany mo_firstOrder mo_lightest mo_heaviest mo_before mo_justSum mo_toldSum mo_allWays mo_lanes mo_sizes mo_cells mo_torn mo_had, _] H := hP
    have hD : va_D A [oq7 mo mo_st mo_at mo_isKept mo_people mo_halfMany mo_draft 0 2 mo_toldLines mo_highest mo_tape mo_taped mo_pos mo_from mo_sort mo_value mo_fault mo_wrongAt mo_row mo_orderMany mo_firstOrder mo_lightest mo_heaviest mo_before mo_justSum mo_toldSum mo_allWays mo_lanes mo_sizes mo_cells mo_torn mo_had, _] := hD
    refine lv_aload_n hx hb dX8_firstDraft_52 rfl (lv_at hl 1 rfl) ?_
    refine lv_iconst (v := 0) hx hb dX8_firstDraft_53 hki_0 ?_
    refine va_put (D := D) (ci := 7) (v := .int 0) (ty := .int) (C := RX8) (T := TX8) (N := 32) hx hb hts hiX8 tyX8 tyX8_ok nmX8 hown hK hP hD hS 0 rfl rfl 8 (Nat.le_of_ble_eq_true rfl) fl57 (fun _ h9 => h9) rfl (by decide +kernel) rfl rfl (Nat.le_of_ble_eq_true rfl) dX8_firstDraft_54 (fun H locs hP hD hS => ?_)
    have hP : va_P D vwCl [oq7 mo mo_st mo_at mo_isKept mo_people mo_halfMany mo_draft 0 2 0 mo_highest mo_tape mo_taped mo_pos mo_from mo_sort mo_value mo_fault mo_wrongAt mo_row mo_orderMany mo_firstOrder mo_lightest mo_heaviest mo_before mo_justSum mo_toldSum mo_allWays mo_lanes mo_sizes mo_cells mo_torn mo_had, _] H := hP
    have hD : va_D A [oq7 mo mo_st mo_at mo_isKept mo_people mo_halfMany mo_draft 0 2 0 mo_highest mo_tape mo_taped mo_pos mo_from mo_sort mo_value mo_fault mo_wrongAt mo_row mo_orderMany mo_firstOrder mo_lightest mo_heaviest mo_before mo_justSum mo_toldSum mo_allWays mo_lanes mo_sizes mo_cells mo_torn mo_had, _] := hD
    refine lv_aload_n hx hb dX8_firstDraft_57 rfl (lv_at hl 1 rfl) ?_
    refine lv_bipush (v := (-4)) hx hb dX8_firstDraft_58 hkb_m4 ?_
    refine va_put (D := D) (ci := 7) (v := .int (-4)) (ty := .int) (C := RX8) (T := TX8) (N := 32) hx hb hts hiX8 tyX8 tyX8_ok nmX8 hown hK hP hD hS 0 rfl rfl 9 (Nat.le_of_ble_eq_true rfl) fl60 (fun _ h9 => h9) rfl (by decide +kernel) rfl rfl (Nat.le_of_ble_eq_true rfl) dX8_firstDraft_60 (fun H locs hP hD hS => ?_)
    have hP : va_P D vwCl [oq7 mo mo_st mo_at mo_isKept mo_people mo_halfMany mo_draft 0 2 0 (-4) mo_tape mo_taped mo_pos mo_from mo_sort mo_value mo_fault mo_wrongAt mo_row mo_orderMany mo_firstOrder mo_lightest mo_heaviest mo_before mo_justSum mo_toldSum mo_allWays mo_lanes mo_sizes mo_cells mo_torn mo_had, _] H := hP
    have hD : va_D A [oq7 mo mo_st mo_at mo_isKept mo_people mo_halfMany mo_draft 0 2 0 (-4) mo_tape mo_taped mo_pos mo_from mo_sort mo_value mo_fault mo_wrongAt mo_row mo_orderMany mo_firstOrder mo_lightest mo_heaviest mo_before mo_justSum mo_toldSum mo_allWays mo_lanes mo_sizes mo_cells mo_torn mo_had, _] := hD
    exact hs_vret hx hb hr hlocks hK hP hD hS () [0, 1] rfl (hs_upnd rfl) dX8_firstDraft_63 (trivial)

set_option maxHeartbeats 4000000 in
set_option maxRecDepth 100000 in
theorem m_keepDraft_z (l : Launch) (D : va_G) (k : Nat → ClassId) (sz : Nat) (mo : Nat) (mo_st : Nat) (mo_at : Nat) (mo_isKept : Nat) (mo_people : Int32) (mo_halfMany : Int32) (mo_draft : Nat) (mo_dPeople : Int32) (mo_dHalves : Int32) (mo_toldLines : Int32) (mo_highest : Int32) (mo_tape : Nat) (mo_taped : Int32) (mo_pos : Int32) (mo_from : Int32) (mo_sort : Int32) (mo_value : Int32) (mo_fault : Int32) (mo_wrongAt : Int32) (mo_row : Nat) (mo_orderMany : Int32) (mo_firstOrder : Int32) (mo_lightest : Int32) (mo_heaviest : Int32) (mo_before : Nat) (mo_justSum : Int64) (mo_toldSum : Int64) (mo_allWays : Int64) (mo_lanes : Nat) (mo_sizes : Nat) (mo_cells : Nat) (mo_torn : Int32) (mo_had : Nat)  : MV l yX8_keepDraft wsX8_keepDraft ({ frames := 0, cells := 0, slots := 0, locals := 0 }) D k [.ref mo] [oq7 mo mo_st mo_at mo_isKept mo_people mo_halfMany mo_draft mo_dPeople mo_dHalves mo_toldLines mo_highest mo_tape mo_taped mo_pos mo_from mo_sort mo_value mo_fault mo_wrongAt mo_row mo_orderMany mo_firstOrder mo_lightest mo_heaviest mo_before mo_justSum mo_toldSum mo_allWays mo_lanes mo_sizes mo_cells mo_torn mo_had, oqI k mo_st 132 (hsz), oqB k mo_isKept 2 (hsz), oqI k mo_draft 44 (hst)] sz (fun (u : Unit) => True) (fun (u : Unit) => [oq7 mo mo_st mo_at mo_isKept mo_dPeople mo_dHalves mo_draft mo_dPeople mo_dHalves mo_toldLines mo_highest mo_tape mo_taped mo_pos mo_from mo_sort mo_value mo_fault mo_wrongAt mo_row mo_orderMany mo_firstOrder mo_lightest mo_heaviest mo_before mo_justSum mo_toldSum mo_allWays mo_lanes mo_sizes mo_cells mo_torn mo_had, oqI k mo_st 132 (hst), oqB k mo_isKept 2 (hsz), oqI k mo_draft 44 (hst)]) := by
  refine Met.ofW (cc := cX8_keepDraft) (maxL := 2) (ret := none) hpn_X8 rfl ?_
  intro p e s m args below meth c s₁ B hml hv
  obtain ⟨rfl, hsz, hP, hK, hD0, hN⟩ := hv
  have hx := B.exec
  have hb := B.bytes
  have hr := B.returns
  have hlocks := B.notSynchronized
  have hts := atoms_spec (ws := wsX8_keepDraft) B.pre
  have hown := findClass_of_methodNamed B.named
  have hown : s.vm.findClass RX8 = some m.cls := hown
  have hiX8 : ∀ w ∈ u_ws RX8 TX8 32, w ∈ wsX8_keepDraft := fun w9 hw9 => List.mem_cons_of_mem _ (igX8 w9 hw9)
  have fl7 := hts (.fieldLink RX8 7 "HalfScalesModel" "st" "[I") (List.mem_cons_of_mem _ (hs_inG 4 80 rfl rfl))
  have fl20 := hts (.fieldLink RX8 20 "HalfScalesModel" "draft" "[I") (List.mem_cons_of_mem _ (hs_inG 4 85 rfl rfl))
  have fl50 := hts (.fieldLink RX8 50 "HalfScalesModel" "dPeople" "I") (List.mem_cons_of_mem _ (hs_inG 4 86 rfl rfl))
  have fl63 := hts (.fieldLink RX8 63 "HalfScalesModel" "people" "I") (List.mem_cons_of_mem _ (hs_inG 4 83 rfl rfl))
  have fl54 := hts (.fieldLink RX8 54 "HalfScalesModel" "dHalves" "I") (List.mem_cons_of_mem _ (hs_inG 4 87 rfl rfl))
  have fl66 := hts (.fieldLink RX8 66 "HalfScalesModel" "halfMany" "I") (List.mem_cons_of_mem _ (hs_inG 4 84 rfl rfl))
  have fl16 := hts (.fieldLink RX8 16 "HalfScalesModel" "isKept" "[Z") (List.mem_cons_of_mem _ (hs_inG 4 82 rfl rfl))
  subst hsz
  have hD := hD0.self (sz := s.heap.size)
  generalize hAe : va_A [oq7 mo mo_st mo_at mo_isKept mo_people mo_halfMany mo_draft mo_dPeople mo_dHalves mo_toldLines mo_highest mo_tape mo_taped mo_pos mo_from mo_sort mo_value mo_fault mo_wrongAt mo_row mo_orderMany mo_firstOrder mo_lightest mo_heaviest mo_before mo_justSum mo_toldSum mo_allWays mo_lanes mo_sizes mo_cells mo_torn mo_had, oqI k mo_st 132 (hsz), oqB k mo_isKept 2 (hsz), oqI k mo_draft 44 (hst)] s.heap.size = A at hD ⊢
  have hA : ∀ q : Nat, s.heap.size ≤ q → A q := fun q h => by rw [← hAe]; exact Or.inr h
  have hS : va_S A s.heap s.heap [] := va_S.rf
  have hl := lv_entry ([.ref mo]) (n := 2) (Nat.le_of_ble_eq_true rfl)
  rw [lg_entry_eq]
  generalize (lg_sl ([.ref mo]) ++ List.replicate (2 - (lg_sl ([.ref mo])).length) Slot.unset).toArray = ls at hl ⊢
  have hl : lv_has ls 2 [(0, .ref mo)] := hl
  have hP : va_P D vwCl [oq7 mo mo_st mo_at mo_isKept mo_people mo_halfMany mo_draft mo_dPeople mo_dHalves mo_toldLines mo_highest mo_tape mo_taped mo_pos mo_from mo_sort mo_value mo_fault mo_wrongAt mo_row mo_orderMany mo_firstOrder mo_lightest mo_heaviest mo_before mo_justSum mo_toldSum mo_allWays mo_lanes mo_sizes mo_cells mo_torn mo_had, oqI k mo_st 132 (hsz), oqB k mo_isKept 2 (hsz), oqI k mo_draft 44 (hst)] s.heap := hP
  refine lv_iconst (v := 0) hx hb dX8_keepDraft_0 hki_0 ?_
  refine lv_istore_n (lv' := [(1, .int 0), (0, .ref mo)]) hx hb dX8_keepDraft_1 rfl hl (Nat.le_of_ble_eq_true rfl) rfl (fun ls hl => ?_)
  refine hs_for 44 (fun i => [oq7 mo mo_st mo_at mo_isKept mo_people mo_halfMany mo_draft mo_dPeople mo_dHalves mo_toldLines mo_highest mo_tape mo_taped mo_pos mo_from mo_sort mo_value mo_fault mo_wrongAt mo_row mo_orderMany mo_firstOrder mo_lightest mo_heaviest mo_before mo_justSum mo_toldSum mo_allWays mo_lanes mo_sizes mo_cells mo_torn mo_had, oqI k mo_st 132 (hsfill hst hsz i), oqB k mo_isKept 2 (hsz), oqI k mo_draft 44 (hst)]) (fun i => [(1, .int (nI i)), (0, .ref mo)]) ?_ ?_ (by rw [hsfill_0]; exact hP) (by rw [hsfill_0]; exact hD) hS hl
  · intro i hi ih H locs ls hP hD hS hl
    refine lv_iload_n hx hb dX8_keepDraft_2 rfl (lv_at hl 0 rfl) ?_
    refine lv_bipush (v := 44) hx hb dX8_keepDraft_3 hkb_44 ?_
    refine lv_icmp_ge (tgt := 26) hx hb dX8_keepDraft_5 rfl (fun c_1 => absurd c_1 (nI_ge (show i < 44 by omega) (by decide))) (fun c_1 => ?_)
    refine lv_aload_n hx hb dX8_keepDraft_8 rfl (lv_at hl 1 rfl) ?_
    refine va_get (D := D) (ci := 7) (v := .ref mo_st) (C := RX8) (T := TX8) (N := 32) hx hb hts hiX8 hown hK hP 0 rfl rfl 0 (Nat.le_of_ble_eq_true rfl) fl7 (fun _ h9 => h9) rfl dX8_keepDraft_9 ?_
    refine lv_iload_n hx hb dX8_keepDraft_12 rfl (lv_at hl 0 rfl) ?_
    refine lv_aload_n hx hb dX8_keepDraft_13 rfl (lv_at hl 1 rfl) ?_
    refine va_get (D := D) (ci := 7) (v := .ref mo_draft) (C := RX8) (T := TX8) (N := 32) hx hb hts hiX8 hown hK hP 0 rfl rfl 5 (Nat.le_of_ble_eq_true rfl) fl20 (fun _ h9 => h9) rfl dX8_keepDraft_14 ?_
    refine lv_iload_n hx hb dX8_keepDraft_17 rfl (lv_at hl 0 rfl) ?_
    refine va_iald hx hb hK hP 3 0 rfl rfl (vp_in_nI (show i < 44 by omega) (by decide)) dX8_keepDraft_18 ?_
    refine va_iast hx hb hK hP hD hS 1 0 rfl rfl (vp_in_nI (show i < 132 by omega) (by decide)) dX8_keepDraft_19 (fun H locs hP hD hS => ?_)
    have hE : upd (hsfill hst hsz i) ((nI i).toNatClampNeg) (hst (nI i).toNatClampNeg) = hsfill hst hsz (i + 1) := by rw [nI_clamp (show i < 2 ^ 31 by omega)]; exact hsfill_s hst hsz i
    have hP : va_P D vwCl [oq7 mo mo_st mo_at mo_isKept mo_people mo_halfMany mo_draft mo_dPeople mo_dHalves mo_toldLines mo_highest mo_tape mo_taped mo_pos mo_from mo_sort mo_value mo_fault mo_wrongAt mo_row mo_orderMany mo_firstOrder mo_lightest mo_heaviest mo_before mo_justSum mo_toldSum mo_allWays mo_lanes mo_sizes mo_cells mo_torn mo_had, oqI k mo_st 132 (upd (hsfill hst hsz i) ((nI i).toNatClampNeg) (hst (nI i).toNatClampNeg)), oqB k mo_isKept 2 (hsz), oqI k mo_draft 44 (hst)] H := hP
    have hD : va_D A [oq7 mo mo_st mo_at mo_isKept mo_people mo_halfMany mo_draft mo_dPeople mo_dHalves mo_toldLines mo_highest mo_tape mo_taped mo_pos mo_from mo_sort mo_value mo_fault mo_wrongAt mo_row mo_orderMany mo_firstOrder mo_lightest mo_heaviest mo_before mo_justSum mo_toldSum mo_allWays mo_lanes mo_sizes mo_cells mo_torn mo_had, oqI k mo_st 132 (upd (hsfill hst hsz i) ((nI i).toNatClampNeg) (hst (nI i).toNatClampNeg)), oqB k mo_isKept 2 (hsz), oqI k mo_draft 44 (hst)] := hD
    rw [hE] at hP hD
    refine lv_iinc (v := nI (i + 1)) (lv' := [(1, .int (nI (i + 1))), (0, .ref mo)]) hx hb dX8_keepDraft_20 hl (k := 0) rfl (by rw [nI_succ]; rfl) (Nat.le_of_ble_eq_true rfl) rfl (fun ls hl => ?_)
    refine lv_goto (tgt := 2) hx hb dX8_keepDraft_23 rfl ?_
    exact ih _ _ _ hP hD hS (lv_sub hl [0, 1] rfl)
  · intro H locs ls hP hD hS hl
    have hE : hsfill hst hsz 44 = hst := hsfill_st
    have hP : va_P D vwCl [_, oqI k mo_st 132 (hsfill hst hsz 44), _, _] H := hP
    have hD : va_D A [_, oqI k mo_st 132 (hsfill hst hsz 44), _, _] := hD
    rw [hE] at hP hD
    refine lv_iload_n hx hb dX8_keepDraft_2 rfl (lv_at hl 0 rfl) ?_
    refine lv_bipush (v := 44) hx hb dX8_keepDraft_3 hkb_44 ?_
    refine lv_icmp_ge (tgt := 26) hx hb dX8_keepDraft_5 rfl (fun c_2 => ?_) (fun c_2 => absurd (show (44 : Int32) ≤ nI 44 by decide) c_2)
    refine lv_aload_n hx hb dX8_keepDraft_26 rfl (lv_at hl 1 rfl) ?_
    refine lv_aload_n hx hb dX8_keepDraft_27 rfl (lv_at hl 1 rfl) ?_
    refine va_get (D := D) (ci := 7) (v := .int mo_dPeople) (C := RX8) (T := TX8) (N := 32) hx hb hts hiX8 hown hK hP 0 rfl rfl 6 (Nat.le_of_ble_eq_true rfl) fl50 (fun _ h9 => h9) rfl dX8_keepDraft_28 ?_
    refine va_put (D := D) (ci := 7) (v := .int mo_dPeople) (ty := .int) (C := RX8) (T := TX8) (N := 32) hx hb hts hiX8 tyX8 tyX8_ok nmX8 hown hK hP hD hS 0 rfl rfl 3 (Nat.le_of_ble_eq_true rfl) fl63 (fun _ h9 => h9) rfl (by decide +kernel) rfl rfl (Nat.le_of_ble_eq_true rfl) dX8_keepDraft_31 (fun H locs hP hD hS => ?_)
    have hP : va_P D vwCl [oq7 mo mo_st mo_at mo_isKept mo_dPeople mo_halfMany mo_draft mo_dPeople mo_dHalves mo_toldLines mo_highest mo_tape mo_taped mo_pos mo_from mo_sort mo_value mo_fault mo_wrongAt mo_row mo_orderMany mo_firstOrder mo_lightest mo_heaviest mo_before mo_justSum mo_toldSum mo_allWays mo_lanes mo_sizes mo_cells mo_torn mo_had, oqI k mo_st 132 (hst), _, _] H := hP
    have hD : va_D A [oq7 mo mo_st mo_at mo_isKept mo_dPeople mo_halfMany mo_draft mo_dPeople mo_dHalves mo_toldLines mo_highest mo_tape mo_taped mo_pos mo_from mo_sort mo_value mo_fault mo_wrongAt mo_row mo_orderMany mo_firstOrder mo_lightest mo_heaviest mo_before mo_justSum mo_toldSum mo_allWays mo_lanes mo_sizes mo_cells mo_torn mo_had, oqI k mo_st 132 (hst), _, _] := hD
    refine lv_aload_n hx hb dX8_keepDraft_34 rfl (lv_at hl 1 rfl) ?_
    refine lv_aload_n hx hb dX8_keepDraft_35 rfl (lv_at hl 1 rfl) ?_
    refine va_get (D := D) (ci := 7) (v := .int mo_dHalves) (C := RX8) (T := TX8) (N := 32) hx hb hts hiX8 hown hK hP 0 rfl rfl 7 (Nat.le_of_ble_eq_true rfl) fl54 (fun _ h9 => h9) rfl dX8_keepDraft_36 ?_
    refine va_put (D := D) (ci := 7) (v := .int mo_dHalves) (ty := .int) (C := RX8) (T := TX8) (N := 32) hx hb hts hiX8 tyX8 tyX8_ok nmX8 hown hK hP hD hS 0 rfl rfl 4 (Nat.le_of_ble_eq_true rfl) fl66 (fun _ h9 => h9) rfl (by decide +kernel) rfl rfl (Nat.le_of_ble_eq_true rfl) dX8_keepDraft_39 (fun H locs hP hD hS => ?_)
    have hP : va_P D vwCl [oq7 mo mo_st mo_at mo_isKept mo_dPeople mo_dHalves mo_draft mo_dPeople mo_dHalves mo_toldLines mo_highest mo_tape mo_taped mo_pos mo_from mo_sort mo_value mo_fault mo_wrongAt mo_row mo_orderMany mo_firstOrder mo_lightest mo_heaviest mo_before mo_justSum mo_toldSum mo_allWays mo_lanes mo_sizes mo_cells mo_torn mo_had, _, _, _] H := hP
    have hD : va_D A [oq7 mo mo_st mo_at mo_isKept mo_dPeople mo_dHalves mo_draft mo_dPeople mo_dHalves mo_toldLines mo_highest mo_tape mo_taped mo_pos mo_from mo_sort mo_value mo_fault mo_wrongAt mo_row mo_orderMany mo_firstOrder mo_lightest mo_heaviest mo_before mo_justSum mo_toldSum mo_allWays mo_lanes mo_sizes mo_cells mo_torn mo_had, _, _, _] := hD
    refine lv_aload_n hx hb dX8_keepDraft_42 rfl (lv_at hl 1 rfl) ?_
    refine va_get (D := D) (ci := 7) (v := .ref mo_isKept) (C := RX8) (T := TX8) (N := 32) hx hb hts hiX8 hown hK hP 0 rfl rfl 2 (Nat.le_of_ble_eq_true rfl) fl16 (fun _ h9 => h9) rfl dX8_keepDraft_43 ?_
    refine lv_iconst (v := 0) hx hb dX8_keepDraft_46 hki_0 ?_
    refine lv_iconst (v := 0) hx hb dX8_keepDraft_47 hki_0 ?_
    refine va_zast hx hb hK hP hD hS 2 2 rfl rfl (hs_in (by decide)) dX8_keepDraft_48 (fun H locs hP hD hS => ?_)
    have hE : upd hsz 0 0 = hsz := hs_uz 0
    have hP : va_P D vwCl [_, _, oqB k mo_isKept 2 (upd hsz 0 0), _] H := hP
    have hD : va_D A [_, _, oqB k mo_isKept 2 (upd hsz 0 0), _] := hD
    rw [hE] at hP hD
    refine lv_aload_n hx hb dX8_keepDraft_49 rfl (lv_at hl 1 rfl) ?_
    refine va_get (D := D) (ci := 7) (v := .ref mo_isKept) (C := RX8) (T := TX8) (N := 32) hx hb hts hiX8 hown hK hP 0 rfl rfl 2 (Nat.le_of_ble_eq_true rfl) fl16 (fun _ h9 => h9) rfl dX8_keepDraft_50 ?_
    refine lv_iconst (v := 1) hx hb dX8_keepDraft_53 hki_1 ?_
    refine lv_iconst (v := 0) hx hb dX8_keepDraft_54 hki_0 ?_
    refine va_zast hx hb hK hP hD hS 2 2 rfl rfl (hs_in (by decide)) dX8_keepDraft_55 (fun H locs hP hD hS => ?_)
    have hE : upd hsz 1 0 = hsz := hs_uz 1
    have hP : va_P D vwCl [_, _, oqB k mo_isKept 2 (upd hsz 1 0), _] H := hP
    have hD : va_D A [_, _, oqB k mo_isKept 2 (upd hsz 1 0), _] := hD
    rw [hE] at hP hD
    exact hs_vret hx hb hr hlocks hK hP hD hS () [0, 1, 2, 3] rfl (hs_upnd rfl) dX8_keepDraft_56 (trivial)

set_option maxHeartbeats 4000000 in
set_option maxRecDepth 100000 in
theorem m_init (l : Launch) (D : va_G) (k : Nat → ClassId) (sz : Nat) (t : Nat)  : MV l yX8_init wsX8_init ({ frames := 1, cells := 11, slots := 624, locals := 21 }) D k [.ref t] [(t, .inr (7, [.null, .null, .null, .int 0, .int 0, .null, .int 0, .int 0, .int 0, .int 0, .null, .int 0, .int 0, .int 0, .int 0, .int 0, .int 0, .int 0, .null, .int 0, .int 0, .int 0, .int 0, .null, .long 0, .long 0, .long 0, .null, .null, .null, .int 0, .null]))] sz (fun (u : Nat → Nat) => True) (fun (u : Nat → Nat) => [oq7 t (u 0) (u 1) (u 2) 0 2 (u 3) 0 2 0 (-4) (u 4) 0 0 0 0 0 0 0 (u 5) 0 0 0 0 (u 6) 0 0 0 (u 7) (u 8) (u 9) 0 (u 10), oqI k (u 0) 132 (hst), oqI k (u 1) 44 (hsz), oqB k (u 2) 2 (hsz), oqI k (u 3) 44 (hst), oqI k (u 4) 160 (hsz), oqI k (u 5) 5 (hsz), oqI k (u 6) 25 (hsz), oqI k (u 7) 4 (hsl), oqI k (u 8) 4 (hsz), oqI k (u 9) 160 (hsz), oqI k (u 10) 44 (hsz)]) := by
  refine Met.ofW (cc := cX8_init) (maxL := 2) (ret := none) hpn_X8 rfl ?_
  intro p e s m args below meth c s₁ B hml hv
  obtain ⟨rfl, hsz, hP, hK, hD0, hN⟩ := hv
  have hx := B.exec
  have hb := B.bytes
  have hr := B.returns
  have hlocks := B.notSynchronized
  have hts := atoms_spec (ws := wsX8_init) B.pre
  have hown := findClass_of_methodNamed B.named
  have hown : s.vm.findClass RX8 = some m.cls := hown
  have hin : meth.name = "<init>" := (name_of_methodNamed B.named B.method).1
  have hiX8 : ∀ w ∈ u_ws RX8 TX8 32, w ∈ wsX8_init := fun w9 hw9 => List.mem_cons_of_mem _ (igX8 w9 hw9)
  have fl7 := hts (.fieldLink RX8 7 "HalfScalesModel" "st" "[I") (List.mem_cons_of_mem _ (hs_inG 4 80 rfl rfl))
  have fl13 := hts (.fieldLink RX8 13 "HalfScalesModel" "at" "[I") (List.mem_cons_of_mem _ (hs_inG 4 81 rfl rfl))
  have fl16 := hts (.fieldLink RX8 16 "HalfScalesModel" "isKept" "[Z") (List.mem_cons_of_mem _ (hs_inG 4 82 rfl rfl))
  have fl20 := hts (.fieldLink RX8 20 "HalfScalesModel" "draft" "[I") (List.mem_cons_of_mem _ (hs_inG 4 85 rfl rfl))
  have fl23 := hts (.fieldLink RX8 23 "HalfScalesModel" "tape" "[I") (List.mem_cons_of_mem _ (hs_inG 4 90 rfl rfl))
  have fl26 := hts (.fieldLink RX8 26 "HalfScalesModel" "row" "[I") (List.mem_cons_of_mem _ (hs_inG 4 98 rfl rfl))
  have fl29 := hts (.fieldLink RX8 29 "HalfScalesModel" "before" "[I") (List.mem_cons_of_mem _ (hs_inG 4 103 rfl rfl))
  have fl32 := hts (.fieldLink RX8 32 "HalfScalesModel" "lanes" "[I") (List.mem_cons_of_mem _ (hs_inG 4 107 rfl rfl))
  have fl35 := hts (.fieldLink RX8 35 "HalfScalesModel" "sizes" "[I") (List.mem_cons_of_mem _ (hs_inG 4 108 rfl rfl))
  have fl38 := hts (.fieldLink RX8 38 "HalfScalesModel" "cells" "[I") (List.mem_cons_of_mem _ (hs_inG 4 109 rfl rfl))
  have fl41 := hts (.fieldLink RX8 41 "HalfScalesModel" "had" "[I") (List.mem_cons_of_mem _ (hs_inG 4 111 rfl rfl))
  have oi1 := hts (.methodLink RX8 1 objectInit) (List.mem_cons_of_mem _ (hs_inG 4 71 rfl rfl))
  have oi2 := hts (.instanceMethod objectInit) (List.mem_cons_of_mem _ (hs_inG 1 23 rfl rfl))
  have oi3 := hts (.code objectInit ⟨#[0xb1]⟩ 1 none) (List.mem_cons_of_mem _ (hs_inG 1 24 rfl rfl))
  have acI := hts (.arrayClass .int) (List.mem_cons_of_mem _ (hs_inG 1 109 rfl rfl))
  have acZ := hts (.arrayClass .boolean) (List.mem_cons_of_mem _ (hs_inG 1 147 rfl rfl))
  subst hsz
  have hD := hD0.self (sz := s.heap.size)
  generalize hAe : va_A [(t, .inr (7, [.null, .null, .null, .int 0, .int 0, .null, .int 0, .int 0, .int 0, .int 0, .null, .int 0, .int 0, .int 0, .int 0, .int 0, .int 0, .int 0, .null, .int 0, .int 0, .int 0, .int 0, .null, .long 0, .long 0, .long 0, .null, .null, .null, .int 0, .null]))] s.heap.size = A at hD ⊢
  have hA : ∀ q : Nat, s.heap.size ≤ q → A q := fun q h => by rw [← hAe]; exact Or.inr h
  have hS : va_S A s.heap s.heap [] := va_S.rf
  have hl := lv_entry ([.ref t]) (n := 2) (Nat.le_of_ble_eq_true rfl)
  rw [lg_entry_eq]
  generalize (lg_sl ([.ref t]) ++ List.replicate (2 - (lg_sl ([.ref t])).length) Slot.unset).toArray = ls at hl ⊢
  have hl : lv_has ls 2 [(0, .ref t)] := hl
  have hP : va_P D vwCl [(t, .inr (7, [.null, .null, .null, .int 0, .int 0, .null, .int 0, .int 0, .int 0, .int 0, .null, .int 0, .int 0, .int 0, .int 0, .int 0, .int 0, .int 0, .null, .int 0, .int 0, .int 0, .int 0, .null, .long 0, .long 0, .long 0, .null, .null, .null, .int 0, .null]))] s.heap := hP
  refine lv_aload_n hx hb dX8_init_0 rfl (lv_at hl 0 rfl) ?_
  refine W.objInit hx hb hown oi1 oi2 oi3 rfl (by rw [hml]; exact hl.1) rfl dX8_init_1 (Nat.le_of_ble_eq_true rfl) (Nat.le_of_ble_eq_true rfl) ?_
  refine W.eq (g2 := F0 m 4 ls []) rfl ?_
  refine lv_aload_n hx hb dX8_init_4 rfl (lv_at hl 0 rfl) ?_
  refine lv_sipush (v := 132) hx hb dX8_init_5 hkp_132 ?_
  refine va_newa (atype := .int) (ty := .int) (N' := 132) (a0 := (132, .inl hsz)) hx hb acI rfl hK hP hD hS hA (fun _ => rfl) (by decide) (by decide) (by decide) (Nat.le_of_ble_eq_true rfl) (Nat.le_of_ble_eq_true rfl) dX8_init_8 (fun q_1 cA H hK2 hP hD hS => ?_)
  obtain rfl : cA = k 0 := hs_cAI hK2
  have hP : va_P D vwCl [(t, .inr (7, [.null, .null, .null, .int 0, .int 0, .null, .int 0, .int 0, .int 0, .int 0, .null, .int 0, .int 0, .int 0, .int 0, .int 0, .int 0, .int 0, .null, .int 0, .int 0, .int 0, .int 0, .null, .long 0, .long 0, .long 0, .null, .null, .null, .int 0, .null])), oqI k q_1 132 (hsz)] H := hP
  have hD : va_D A [(t, .inr (7, [.null, .null, .null, .int 0, .int 0, .null, .int 0, .int 0, .int 0, .int 0, .null, .int 0, .int 0, .int 0, .int 0, .int 0, .int 0, .int 0, .null, .int 0, .int 0, .int 0, .int 0, .null, .long 0, .long 0, .long 0, .null, .null, .null, .int 0, .null])), oqI k q_1 132 (hsz)] := hD
  refine W.widen (k := 1) (n := 132) (Nat.le_of_ble_eq_true rfl) (Nat.le_of_ble_eq_true rfl) ?_
  refine va_putF (D := D) (ci := 7) (v := .ref q_1) (ty := (.array .int)) (C := RX8) (T := TX8) (N := 32) hx hb hts hiX8 tyX8 tyX8_ok nmX8 hown hK hP hD hS 0 rfl rfl 0 (Nat.le_of_ble_eq_true rfl) fl7 (fun _ h9 => h9) rfl hin rfl (by decide +kernel) rfl rfl (Nat.le_of_ble_eq_true rfl) dX8_init_10 (fun H locs hP hD hS => ?_)
  have hP : va_P D vwCl [(t, .inr (7, [.ref q_1, .null, .null, .int 0, .int 0, .null, .int 0, .int 0, .int 0, .int 0, .null, .int 0, .int 0, .int 0, .int 0, .int 0, .int 0, .int 0, .null, .int 0, .int 0, .int 0, .int 0, .null, .long 0, .long 0, .long 0, .null, .null, .null, .int 0, .null])), _] H := hP
  have hD : va_D A [(t, .inr (7, [.ref q_1, .null, .null, .int 0, .int 0, .null, .int 0, .int 0, .int 0, .int 0, .null, .int 0, .int 0, .int 0, .int 0, .int 0, .int 0, .int 0, .null, .int 0, .int 0, .int 0, .int 0, .null, .long 0, .long 0, .long 0, .null, .null, .null, .int 0, .null])), _] := hD
  refine lv_aload_n hx hb dX8_init_13 rfl (lv_at hl 0 rfl) ?_
  refine lv_bipush (v := 44) hx hb dX8_init_14 hkb_44 ?_
  refine va_newa (atype := .int) (ty := .int) (N' := 44) (a0 := (44, .inl hsz)) hx hb acI rfl hK hP hD hS hA (fun _ => rfl) (by decide) (by decide) (by decide) (Nat.le_of_ble_eq_true rfl) (Nat.le_of_ble_eq_true rfl) dX8_init_16 (fun q_2 cA H hK2 hP hD hS => ?_)
  obtain rfl : cA = k 0 := hs_cAI hK2
  have hP : va_P D vwCl [(t, .inr (7, [.ref q_1, .null, .null, .int 0, .int 0, .null, .int 0, .int 0, .int 0, .int 0, .null, .int 0, .int 0, .int 0, .int 0, .int 0, .int 0, .int 0, .null, .int 0, .int 0, .int 0, .int 0, .null, .long 0, .long 0, .long 0, .null, .null, .null, .int 0, .null])), oqI k q_1 132 (hsz), oqI k q_2 44 (hsz)] H := hP
  have hD : va_D A [(t, .inr (7, [.ref q_1, .null, .null, .int 0, .int 0, .null, .int 0, .int 0, .int 0, .int 0, .null, .int 0, .int 0, .int 0, .int 0, .int 0, .int 0, .int 0, .null, .int 0, .int 0, .int 0, .int 0, .null, .long 0, .long 0, .long 0, .null, .null, .null, .int 0, .null])), oqI k q_1 132 (hsz), oqI k q_2 44 (hsz)] := hD
  refine W.widen (k := 2) (n := 176) (Nat.le_of_ble_eq_true rfl) (Nat.le_of_ble_eq_true rfl) ?_
  refine va_putF (D := D) (ci := 7) (v := .ref q_2) (ty := (.array .int)) (C := RX8) (T := TX8) (N := 32) hx hb hts hiX8 tyX8 tyX8_ok nmX8 hown hK hP hD hS 0 rfl rfl 1 (Nat.le_of_ble_eq_true rfl) fl13 (fun _ h9 => h9) rfl hin rfl (by decide +kernel) rfl rfl (Nat.le_of_ble_eq_true rfl) dX8_init_18 (fun H locs hP hD hS => ?_)
  have hP : va_P D vwCl [(t, .inr (7, [.ref q_1, .ref q_2, .null, .int 0, .int 0, .null, .int 0, .int 0, .int 0, .int 0, .null, .int 0, .int 0, .int 0, .int 0, .int 0, .int 0, .int 0, .null, .int 0, .int 0, .int 0, .int 0, .null, .long 0, .long 0, .long 0, .null, .null, .null, .int 0, .null])), _, _] H := hP
  have hD : va_D A [(t, .inr (7, [.ref q_1, .ref q_2, .null, .int 0, .int 0, .null, .int 0, .int 0, .int 0, .int 0, .null, .int 0, .int 0, .int 0, .int 0, .int 0, .int 0, .int 0, .null, .int 0, .int 0, .int 0, .int 0, .null, .long 0, .long 0, .long 0, .null, .null, .null, .int 0, .null])), _, _] := hD
  refine lv_aload_n hx hb dX8_init_21 rfl (lv_at hl 0 rfl) ?_
  refine lv_iconst (v := 2) hx hb dX8_init_22 hki_2 ?_
  refine va_newa (atype := .boolean) (ty := .boolean) (N' := 2) (a0 := (2, .inl hsz)) hx hb acZ rfl hK hP hD hS hA (fun _ => rfl) (by decide) (by decide) (by decide) (Nat.le_of_ble_eq_true rfl) (Nat.le_of_ble_eq_true rfl) dX8_init_23 (fun q_3 cA H hK2 hP hD hS => ?_)
  obtain rfl : cA = k 2 := hs_cAZ hK2
  have hP : va_P D vwCl [(t, .inr (7, [.ref q_1, .ref q_2, .null, .int 0, .int 0, .null, .int 0, .int 0, .int 0, .int 0, .null, .int 0, .int 0, .int 0, .int 0, .int 0, .int 0, .int 0, .null, .int 0, .int 0, .int 0, .int 0, .null, .long 0, .long 0, .long 0, .null, .null, .null, .int 0, .null])), oqI k q_1 132 (hsz), oqI k q_2 44 (hsz), oqB k q_3 2 (hsz)] H := hP
  have hD : va_D A [(t, .inr (7, [.ref q_1, .ref q_2, .null, .int 0, .int 0, .null, .int 0, .int 0, .int 0, .int 0, .null, .int 0, .int 0, .int 0, .int 0, .int 0, .int 0, .int 0, .null, .int 0, .int 0, .int 0, .int 0, .null, .long 0, .long 0, .long 0, .null, .null, .null, .int 0, .null])), oqI k q_1 132 (hsz), oqI k q_2 44 (hsz), oqB k q_3 2 (hsz)] := hD
  refine W.widen (k := 3) (n := 178) (Nat.le_of_ble_eq_true rfl) (Nat.le_of_ble_eq_true rfl) ?_
  refine va_putF (D := D) (ci := 7) (v := .ref q_3) (ty := (.array .boolean)) (C := RX8) (T := TX8) (N := 32) hx hb hts hiX8 tyX8 tyX8_ok nmX8 hown hK hP hD hS 0 rfl rfl 2 (Nat.le_of_ble_eq_true rfl) fl16 (fun _ h9 => h9) rfl hin rfl (by decide +kernel) rfl rfl (Nat.le_of_ble_eq_true rfl) dX8_init_25 (fun H locs hP hD hS => ?_)
  have hP : va_P D vwCl [(t, .inr (7, [.ref q_1, .ref q_2, .ref q_3, .int 0, .int 0, .null, .int 0, .int 0, .int 0, .int 0, .null, .int 0, .int 0, .int 0, .int 0, .int 0, .int 0, .int 0, .null, .int 0, .int 0, .int 0, .int 0, .null, .long 0, .long 0, .long 0, .null, .null, .null, .int 0, .null])), _, _, _] H := hP
  have hD : va_D A [(t, .inr (7, [.ref q_1, .ref q_2, .ref q_3, .int 0, .int 0, .null, .int 0, .int 0, .int 0, .int 0, .null, .int 0, .int 0, .int 0, .int 0, .int 0, .int 0, .int 0, .null, .int 0, .int 0, .int 0, .int 0, .null, .long 0, .long 0, .long 0, .null, .null, .null, .int 0, .null])), _, _, _] := hD
  refine lv_aload_n hx hb dX8_init_28 rfl (lv_at hl 0 rfl) ?_
  refine lv_bipush (v := 44) hx hb dX8_init_29 hkb_44 ?_
  refine va_newa (atype := .int) (ty := .int) (N' := 44) (a0 := (44, .inl hsz)) hx hb acI rfl hK hP hD hS hA (fun _ => rfl) (by decide) (by decide) (by decide) (Nat.le_of_ble_eq_true rfl) (Nat.le_of_ble_eq_true rfl) dX8_init_31 (fun q_4 cA H hK2 hP hD hS => ?_)
  obtain rfl : cA = k 0 := hs_cAI hK2
  have hP : va_P D vwCl [(t, .inr (7, [.ref q_1, .ref q_2, .ref q_3, .int 0, .int 0, .null, .int 0, .int 0, .int 0, .int 0, .null, .int 0, .int 0, .int 0, .int 0, .int 0, .int 0, .int 0, .null, .int 0, .int 0, .int 0, .int 0, .null, .long 0, .long 0, .long 0, .null, .null, .null, .int 0, .null])), oqI k q_1 132 (hsz), oqI k q_2 44 (hsz), oqB k q_3 2 (hsz), oqI k q_4 44 (hsz)] H := hP
  have hD : va_D A [(t, .inr (7, [.ref q_1, .ref q_2, .ref q_3, .int 0, .int 0, .null, .int 0, .int 0, .int 0, .int 0, .null, .int 0, .int 0, .int 0, .int 0, .int 0, .int 0, .int 0, .null, .int 0, .int 0, .int 0, .int 0, .null, .long 0, .long 0, .long 0, .null, .null, .null, .int 0, .null])), oqI k q_1 132 (hsz), oqI k q_2 44 (hsz), oqB k q_3 2 (hsz), oqI k q_4 44 (hsz)] := hD
  refine W.widen (k := 4) (n := 222) (Nat.le_of_ble_eq_true rfl) (Nat.le_of_ble_eq_true rfl) ?_
  refine va_putF (D := D) (ci := 7) (v := .ref q_4) (ty := (.array .int)) (C := RX8) (T := TX8) (N := 32) hx hb hts hiX8 tyX8 tyX8_ok nmX8 hown hK hP hD hS 0 rfl rfl 5 (Nat.le_of_ble_eq_true rfl) fl20 (fun _ h9 => h9) rfl hin rfl (by decide +kernel) rfl rfl (Nat.le_of_ble_eq_true rfl) dX8_init_33 (fun H locs hP hD hS => ?_)
  have hP : va_P D vwCl [(t, .inr (7, [.ref q_1, .ref q_2, .ref q_3, .int 0, .int 0, .ref q_4, .int 0, .int 0, .int 0, .int 0, .null, .int 0, .int 0, .int 0, .int 0, .int 0, .int 0, .int 0, .null, .int 0, .int 0, .int 0, .int 0, .null, .long 0, .long 0, .long 0, .null, .null, .null, .int 0, .null])), _, _, _, _] H := hP
  have hD : va_D A [(t, .inr (7, [.ref q_1, .ref q_2, .ref q_3, .int 0, .int 0, .ref q_4, .int 0, .int 0, .int 0, .int 0, .null, .int 0, .int 0, .int 0, .int 0, .int 0, .int 0, .int 0, .null, .int 0, .int 0, .int 0, .int 0, .null, .long 0, .long 0, .long 0, .null, .null, .null, .int 0, .null])), _, _, _, _] := hD
  refine lv_aload_n hx hb dX8_init_36 rfl (lv_at hl 0 rfl) ?_
  refine lv_sipush (v := 160) hx hb dX8_init_37 hkp_160 ?_
  refine va_newa (atype := .int) (ty := .int) (N' := 160) (a0 := (160, .inl hsz)) hx hb acI rfl hK hP hD hS hA (fun _ => rfl) (by decide) (by decide) (by decide) (Nat.le_of_ble_eq_true rfl) (Nat.le_of_ble_eq_true rfl) dX8_init_40 (fun q_5 cA H hK2 hP hD hS => ?_)
  obtain rfl : cA = k 0 := hs_cAI hK2
  have hP : va_P D vwCl [(t, .inr (7, [.ref q_1, .ref q_2, .ref q_3, .int 0, .int 0, .ref q_4, .int 0, .int 0, .int 0, .int 0, .null, .int 0, .int 0, .int 0, .int 0, .int 0, .int 0, .int 0, .null, .int 0, .int 0, .int 0, .int 0, .null, .long 0, .long 0, .long 0, .null, .null, .null, .int 0, .null])), oqI k q_1 132 (hsz), oqI k q_2 44 (hsz), oqB k q_3 2 (hsz), oqI k q_4 44 (hsz), oqI k q_5 160 (hsz)] H := hP
  have hD : va_D A [(t, .inr (7, [.ref q_1, .ref q_2, .ref q_3, .int 0, .int 0, .ref q_4, .int 0, .int 0, .int 0, .int 0, .null, .int 0, .int 0, .int 0, .int 0, .int 0, .int 0, .int 0, .null, .int 0, .int 0, .int 0, .int 0, .null, .long 0, .long 0, .long 0, .null, .null, .null, .int 0, .null])), oqI k q_1 132 (hsz), oqI k q_2 44 (hsz), oqB k q_3 2 (hsz), oqI k q_4 44 (hsz), oqI k q_5 160 (hsz)] := hD
  refine W.widen (k := 5) (n := 382) (Nat.le_of_ble_eq_true rfl) (Nat.le_of_ble_eq_true rfl) ?_
  refine va_putF (D := D) (ci := 7) (v := .ref q_5) (ty := (.array .int)) (C := RX8) (T := TX8) (N := 32) hx hb hts hiX8 tyX8 tyX8_ok nmX8 hown hK hP hD hS 0 rfl rfl 10 (Nat.le_of_ble_eq_true rfl) fl23 (fun _ h9 => h9) rfl hin rfl (by decide +kernel) rfl rfl (Nat.le_of_ble_eq_true rfl) dX8_init_42 (fun H locs hP hD hS => ?_)
  have hP : va_P D vwCl [(t, .inr (7, [.ref q_1, .ref q_2, .ref q_3, .int 0, .int 0, .ref q_4, .int 0, .int 0, .int 0, .int 0, .ref q_5, .int 0, .int 0, .int 0, .int 0, .int 0, .int 0, .int 0, .null, .int 0, .int 0, .int 0, .int 0, .null, .long 0, .long 0, .long 0, .null, .null, .null, .int 0, .null])), _, _, _, _, _] H := hP
  have hD : va_D A [(t, .inr (7, [.ref q_1, .ref q_2, .ref q_3, .int 0, .int 0, .ref q_4, .int 0, .int 0, .int 0, .int 0, .ref q_5, .int 0, .int 0, .int 0, .int 0, .int 0, .int 0, .int 0, .null, .int 0, .int 0, .int 0, .int 0, .null, .long 0, .long 0, .long 0, .null, .null, .null, .int 0, .null])), _, _, _, _, _] := hD
  refine lv_aload_n hx hb dX8_init_45 rfl (lv_at hl 0 rfl) ?_
  refine lv_iconst (v := 5) hx hb dX8_init_46 hki_5 ?_
  refine va_newa (atype := .int) (ty := .int) (N' := 5) (a0 := (5, .inl hsz)) hx hb acI rfl hK hP hD hS hA (fun _ => rfl) (by decide) (by decide) (by decide) (Nat.le_of_ble_eq_true rfl) (Nat.le_of_ble_eq_true rfl) dX8_init_47 (fun q_6 cA H hK2 hP hD hS => ?_)
  obtain rfl : cA = k 0 := hs_cAI hK2
  have hP : va_P D vwCl [(t, .inr (7, [.ref q_1, .ref q_2, .ref q_3, .int 0, .int 0, .ref q_4, .int 0, .int 0, .int 0, .int 0, .ref q_5, .int 0, .int 0, .int 0, .int 0, .int 0, .int 0, .int 0, .null, .int 0, .int 0, .int 0, .int 0, .null, .long 0, .long 0, .long 0, .null, .null, .null, .int 0, .null])), oqI k q_1 132 (hsz), oqI k q_2 44 (hsz), oqB k q_3 2 (hsz), oqI k q_4 44 (hsz), oqI k q_5 160 (hsz), oqI k q_6 5 (hsz)] H := hP
  have hD : va_D A [(t, .inr (7, [.ref q_1, .ref q_2, .ref q_3, .int 0, .int 0, .ref q_4, .int 0, .int 0, .int 0, .int 0, .ref q_5, .int 0, .int 0, .int 0, .int 0, .int 0, .int 0, .int 0, .null, .int 0, .int 0, .int 0, .int 0, .null, .long 0, .long 0, .long 0, .null, .null, .null, .int 0, .null])), oqI k q_1 132 (hsz), oqI k q_2 44 (hsz), oqB k q_3 2 (hsz), oqI k q_4 44 (hsz), oqI k q_5 160 (hsz), oqI k q_6 5 (hsz)] := hD
  refine W.widen (k := 6) (n := 387) (Nat.le_of_ble_eq_true rfl) (Nat.le_of_ble_eq_true rfl) ?_
  refine va_putF (D := D) (ci := 7) (v := .ref q_6) (ty := (.array .int)) (C := RX8) (T := TX8) (N := 32) hx hb hts hiX8 tyX8 tyX8_ok nmX8 hown hK hP hD hS 0 rfl rfl 18 (Nat.le_of_ble_eq_true rfl) fl26 (fun _ h9 => h9) rfl hin rfl (by decide +kernel) rfl rfl (Nat.le_of_ble_eq_true rfl) dX8_init_49 (fun H locs hP hD hS => ?_)
  have hP : va_P D vwCl [(t, .inr (7, [.ref q_1, .ref q_2, .ref q_3, .int 0, .int 0, .ref q_4, .int 0, .int 0, .int 0, .int 0, .ref q_5, .int 0, .int 0, .int 0, .int 0, .int 0, .int 0, .int 0, .ref q_6, .int 0, .int 0, .int 0, .int 0, .null, .long 0, .long 0, .long 0, .null, .null, .null, .int 0, .null])), _, _, _, _, _, _] H := hP
  have hD : va_D A [(t, .inr (7, [.ref q_1, .ref q_2, .ref q_3, .int 0, .int 0, .ref q_4, .int 0, .int 0, .int 0, .int 0, .ref q_5, .int 0, .int 0, .int 0, .int 0, .int 0, .int 0, .int 0, .ref q_6, .int 0, .int 0, .int 0, .int 0, .null, .long 0, .long 0, .long 0, .null, .null, .null, .int 0, .null])), _, _, _, _, _, _] := hD
  refine lv_aload_n hx hb dX8_init_52 rfl (lv_at hl 0 rfl) ?_
  refine lv_bipush (v := 25) hx hb dX8_init_53 hkb_25 ?_
  refine va_newa (atype := .int) (ty := .int) (N' := 25) (a0 := (25, .inl hsz)) hx hb acI rfl hK hP hD hS hA (fun _ => rfl) (by decide) (by decide) (by decide) (Nat.le_of_ble_eq_true rfl) (Nat.le_of_ble_eq_true rfl) dX8_init_55 (fun q_7 cA H hK2 hP hD hS => ?_)
  obtain rfl : cA = k 0 := hs_cAI hK2
  have hP : va_P D vwCl [(t, .inr (7, [.ref q_1, .ref q_2, .ref q_3, .int 0, .int 0, .ref q_4, .int 0, .int 0, .int 0, .int 0, .ref q_5, .int 0, .int 0, .int 0, .int 0, .int 0, .int 0, .int 0, .ref q_6, .int 0, .int 0, .int 0, .int 0, .null, .long 0, .long 0, .long 0, .null, .null, .null, .int 0, .null])), oqI k q_1 132 (hsz), oqI k q_2 44 (hsz), oqB k q_3 2 (hsz), oqI k q_4 44 (hsz), oqI k q_5 160 (hsz), oqI k q_6 5 (hsz), oqI k q_7 25 (hsz)] H := hP
  have hD : va_D A [(t, .inr (7, [.ref q_1, .ref q_2, .ref q_3, .int 0, .int 0, .ref q_4, .int 0, .int 0, .int 0, .int 0, .ref q_5, .int 0, .int 0, .int 0, .int 0, .int 0, .int 0, .int 0, .ref q_6, .int 0, .int 0, .int 0, .int 0, .null, .long 0, .long 0, .long 0, .null, .null, .null, .int 0, .null])), oqI k q_1 132 (hsz), oqI k q_2 44 (hsz), oqB k q_3 2 (hsz), oqI k q_4 44 (hsz), oqI k q_5 160 (hsz), oqI k q_6 5 (hsz), oqI k q_7 25 (hsz)] := hD
  refine W.widen (k := 7) (n := 412) (Nat.le_of_ble_eq_true rfl) (Nat.le_of_ble_eq_true rfl) ?_
  refine va_putF (D := D) (ci := 7) (v := .ref q_7) (ty := (.array .int)) (C := RX8) (T := TX8) (N := 32) hx hb hts hiX8 tyX8 tyX8_ok nmX8 hown hK hP hD hS 0 rfl rfl 23 (Nat.le_of_ble_eq_true rfl) fl29 (fun _ h9 => h9) rfl hin rfl (by decide +kernel) rfl rfl (Nat.le_of_ble_eq_true rfl) dX8_init_57 (fun H locs hP hD hS => ?_)
  have hP : va_P D vwCl [(t, .inr (7, [.ref q_1, .ref q_2, .ref q_3, .int 0, .int 0, .ref q_4, .int 0, .int 0, .int 0, .int 0, .ref q_5, .int 0, .int 0, .int 0, .int 0, .int 0, .int 0, .int 0, .ref q_6, .int 0, .int 0, .int 0, .int 0, .ref q_7, .long 0, .long 0, .long 0, .null, .null, .null, .int 0, .null])), _, _, _, _, _, _, _] H := hP
  have hD : va_D A [(t, .inr (7, [.ref q_1, .ref q_2, .ref q_3, .int 0, .int 0, .ref q_4, .int 0, .int 0, .int 0, .int 0, .ref q_5, .int 0, .int 0, .int 0, .int 0, .int 0, .int 0, .int 0, .ref q_6, .int 0, .int 0, .int 0, .int 0, .ref q_7, .long 0, .long 0, .long 0, .null, .null, .null, .int 0, .null])), _, _, _, _, _, _, _] := hD
  refine lv_aload_n hx hb dX8_init_60 rfl (lv_at hl 0 rfl) ?_
  refine lv_iconst (v := 4) hx hb dX8_init_61 hki_4 ?_
  refine va_newa (atype := .int) (ty := .int) (N' := 4) (a0 := (4, .inl hsz)) hx hb acI rfl hK hP hD hS hA (fun _ => rfl) (by decide) (by decide) (by decide) (Nat.le_of_ble_eq_true rfl) (Nat.le_of_ble_eq_true rfl) dX8_init_62 (fun q_8 cA H hK2 hP hD hS => ?_)
  obtain rfl : cA = k 0 := hs_cAI hK2
  have hP : va_P D vwCl [(t, .inr (7, [.ref q_1, .ref q_2, .ref q_3, .int 0, .int 0, .ref q_4, .int 0, .int 0, .int 0, .int 0, .ref q_5, .int 0, .int 0, .int 0, .int 0, .int 0, .int 0, .int 0, .ref q_6, .int 0, .int 0, .int 0, .int 0, .ref q_7, .long 0, .long 0, .long 0, .null, .null, .null, .int 0, .null])), oqI k q_1 132 (hsz), oqI k q_2 44 (hsz), oqB k q_3 2 (hsz), oqI k q_4 44 (hsz), oqI k q_5 160 (hsz), oqI k q_6 5 (hsz), oqI k q_7 25 (hsz), oqI k q_8 4 (hsz)] H := hP
  have hD : va_D A [(t, .inr (7, [.ref q_1, .ref q_2, .ref q_3, .int 0, .int 0, .ref q_4, .int 0, .int 0, .int 0, .int 0, .ref q_5, .int 0, .int 0, .int 0, .int 0, .int 0, .int 0, .int 0, .ref q_6, .int 0, .int 0, .int 0, .int 0, .ref q_7, .long 0, .long 0, .long 0, .null, .null, .null, .int 0, .null])), oqI k q_1 132 (hsz), oqI k q_2 44 (hsz), oqB k q_3 2 (hsz), oqI k q_4 44 (hsz), oqI k q_5 160 (hsz), oqI k q_6 5 (hsz), oqI k q_7 25 (hsz), oqI k q_8 4 (hsz)] := hD
  refine W.widen (k := 8) (n := 416) (Nat.le_of_ble_eq_true rfl) (Nat.le_of_ble_eq_true rfl) ?_
  refine va_putF (D := D) (ci := 7) (v := .ref q_8) (ty := (.array .int)) (C := RX8) (T := TX8) (N := 32) hx hb hts hiX8 tyX8 tyX8_ok nmX8 hown hK hP hD hS 0 rfl rfl 27 (Nat.le_of_ble_eq_true rfl) fl32 (fun _ h9 => h9) rfl hin rfl (by decide +kernel) rfl rfl (Nat.le_of_ble_eq_true rfl) dX8_init_64 (fun H locs hP hD hS => ?_)
  have hP : va_P D vwCl [(t, .inr (7, [.ref q_1, .ref q_2, .ref q_3, .int 0, .int 0, .ref q_4, .int 0, .int 0, .int 0, .int 0, .ref q_5, .int 0, .int 0, .int 0, .int 0, .int 0, .int 0, .int 0, .ref q_6, .int 0, .int 0, .int 0, .int 0, .ref q_7, .long 0, .long 0, .long 0, .ref q_8, .null, .null, .int 0, .null])), _, _, _, _, _, _, _, _] H := hP
  have hD : va_D A [(t, .inr (7, [.ref q_1, .ref q_2, .ref q_3, .int 0, .int 0, .ref q_4, .int 0, .int 0, .int 0, .int 0, .ref q_5, .int 0, .int 0, .int 0, .int 0, .int 0, .int 0, .int 0, .ref q_6, .int 0, .int 0, .int 0, .int 0, .ref q_7, .long 0, .long 0, .long 0, .ref q_8, .null, .null, .int 0, .null])), _, _, _, _, _, _, _, _] := hD
  refine lv_aload_n hx hb dX8_init_67 rfl (lv_at hl 0 rfl) ?_
  refine lv_iconst (v := 4) hx hb dX8_init_68 hki_4 ?_
  refine va_newa (atype := .int) (ty := .int) (N' := 4) (a0 := (4, .inl hsz)) hx hb acI rfl hK hP hD hS hA (fun _ => rfl) (by decide) (by decide) (by decide) (Nat.le_of_ble_eq_true rfl) (Nat.le_of_ble_eq_true rfl) dX8_init_69 (fun q_9 cA H hK2 hP hD hS => ?_)
  obtain rfl : cA = k 0 := hs_cAI hK2
  have hP : va_P D vwCl [(t, .inr (7, [.ref q_1, .ref q_2, .ref q_3, .int 0, .int 0, .ref q_4, .int 0, .int 0, .int 0, .int 0, .ref q_5, .int 0, .int 0, .int 0, .int 0, .int 0, .int 0, .int 0, .ref q_6, .int 0, .int 0, .int 0, .int 0, .ref q_7, .long 0, .long 0, .long 0, .ref q_8, .null, .null, .int 0, .null])), oqI k q_1 132 (hsz), oqI k q_2 44 (hsz), oqB k q_3 2 (hsz), oqI k q_4 44 (hsz), oqI k q_5 160 (hsz), oqI k q_6 5 (hsz), oqI k q_7 25 (hsz), oqI k q_8 4 (hsz), oqI k q_9 4 (hsz)] H := hP
  have hD : va_D A [(t, .inr (7, [.ref q_1, .ref q_2, .ref q_3, .int 0, .int 0, .ref q_4, .int 0, .int 0, .int 0, .int 0, .ref q_5, .int 0, .int 0, .int 0, .int 0, .int 0, .int 0, .int 0, .ref q_6, .int 0, .int 0, .int 0, .int 0, .ref q_7, .long 0, .long 0, .long 0, .ref q_8, .null, .null, .int 0, .null])), oqI k q_1 132 (hsz), oqI k q_2 44 (hsz), oqB k q_3 2 (hsz), oqI k q_4 44 (hsz), oqI k q_5 160 (hsz), oqI k q_6 5 (hsz), oqI k q_7 25 (hsz), oqI k q_8 4 (hsz), oqI k q_9 4 (hsz)] := hD
  refine W.widen (k := 9) (n := 420) (Nat.le_of_ble_eq_true rfl) (Nat.le_of_ble_eq_true rfl) ?_
  refine va_putF (D := D) (ci := 7) (v := .ref q_9) (ty := (.array .int)) (C := RX8) (T := TX8) (N := 32) hx hb hts hiX8 tyX8 tyX8_ok nmX8 hown hK hP hD hS 0 rfl rfl 28 (Nat.le_of_ble_eq_true rfl) fl35 (fun _ h9 => h9) rfl hin rfl (by decide +kernel) rfl rfl (Nat.le_of_ble_eq_true rfl) dX8_init_71 (fun H locs hP hD hS => ?_)
  have hP : va_P D vwCl [(t, .inr (7, [.ref q_1, .ref q_2, .ref q_3, .int 0, .int 0, .ref q_4, .int 0, .int 0, .int 0, .int 0, .ref q_5, .int 0, .int 0, .int 0, .int 0, .int 0, .int 0, .int 0, .ref q_6, .int 0, .int 0, .int 0, .int 0, .ref q_7, .long 0, .long 0, .long 0, .ref q_8, .ref q_9, .null, .int 0, .null])), _, _, _, _, _, _, _, _, _] H := hP
  have hD : va_D A [(t, .inr (7, [.ref q_1, .ref q_2, .ref q_3, .int 0, .int 0, .ref q_4, .int 0, .int 0, .int 0, .int 0, .ref q_5, .int 0, .int 0, .int 0, .int 0, .int 0, .int 0, .int 0, .ref q_6, .int 0, .int 0, .int 0, .int 0, .ref q_7, .long 0, .long 0, .long 0, .ref q_8, .ref q_9, .null, .int 0, .null])), _, _, _, _, _, _, _, _, _] := hD
  refine lv_aload_n hx hb dX8_init_74 rfl (lv_at hl 0 rfl) ?_
  refine lv_sipush (v := 160) hx hb dX8_init_75 hkp_160 ?_
  refine va_newa (atype := .int) (ty := .int) (N' := 160) (a0 := (160, .inl hsz)) hx hb acI rfl hK hP hD hS hA (fun _ => rfl) (by decide) (by decide) (by decide) (Nat.le_of_ble_eq_true rfl) (Nat.le_of_ble_eq_true rfl) dX8_init_78 (fun q_10 cA H hK2 hP hD hS => ?_)
  obtain rfl : cA = k 0 := hs_cAI hK2
  have hP : va_P D vwCl [(t, .inr (7, [.ref q_1, .ref q_2, .ref q_3, .int 0, .int 0, .ref q_4, .int 0, .int 0, .int 0, .int 0, .ref q_5, .int 0, .int 0, .int 0, .int 0, .int 0, .int 0, .int 0, .ref q_6, .int 0, .int 0, .int 0, .int 0, .ref q_7, .long 0, .long 0, .long 0, .ref q_8, .ref q_9, .null, .int 0, .null])), oqI k q_1 132 (hsz), oqI k q_2 44 (hsz), oqB k q_3 2 (hsz), oqI k q_4 44 (hsz), oqI k q_5 160 (hsz), oqI k q_6 5 (hsz), oqI k q_7 25 (hsz), oqI k q_8 4 (hsz), oqI k q_9 4 (hsz), oqI k q_10 160 (hsz)] H := hP
  have hD : va_D A [(t, .inr (7, [.ref q_1, .ref q_2, .ref q_3, .int 0, .int 0, .ref q_4, .int 0, .int 0, .int 0, .int 0, .ref q_5, .int 0, .int 0, .int 0, .int 0, .int 0, .int 0, .int 0, .ref q_6, .int 0, .int 0, .int 0, .int 0, .ref q_7, .long 0, .long 0, .long 0, .ref q_8, .ref q_9, .null, .int 0, .null])), oqI k q_1 132 (hsz), oqI k q_2 44 (hsz), oqB k q_3 2 (hsz), oqI k q_4 44 (hsz), oqI k q_5 160 (hsz), oqI k q_6 5 (hsz), oqI k q_7 25 (hsz), oqI k q_8 4 (hsz), oqI k q_9 4 (hsz), oqI k q_10 160 (hsz)] := hD
  refine W.widen (k := 10) (n := 580) (Nat.le_of_ble_eq_true rfl) (Nat.le_of_ble_eq_true rfl) ?_
  refine va_putF (D := D) (ci := 7) (v := .ref q_10) (ty := (.array .int)) (C := RX8) (T := TX8) (N := 32) hx hb hts hiX8 tyX8 tyX8_ok nmX8 hown hK hP hD hS 0 rfl rfl 29 (Nat.le_of_ble_eq_true rfl) fl38 (fun _ h9 => h9) rfl hin rfl (by decide +kernel) rfl rfl (Nat.le_of_ble_eq_true rfl) dX8_init_80 (fun H locs hP hD hS => ?_)
  have hP : va_P D vwCl [(t, .inr (7, [.ref q_1, .ref q_2, .ref q_3, .int 0, .int 0, .ref q_4, .int 0, .int 0, .int 0, .int 0, .ref q_5, .int 0, .int 0, .int 0, .int 0, .int 0, .int 0, .int 0, .ref q_6, .int 0, .int 0, .int 0, .int 0, .ref q_7, .long 0, .long 0, .long 0, .ref q_8, .ref q_9, .ref q_10, .int 0, .null])), _, _, _, _, _, _, _, _, _, _] H := hP
  have hD : va_D A [(t, .inr (7, [.ref q_1, .ref q_2, .ref q_3, .int 0, .int 0, .ref q_4, .int 0, .int 0, .int 0, .int 0, .ref q_5, .int 0, .int 0, .int 0, .int 0, .int 0, .int 0, .int 0, .ref q_6, .int 0, .int 0, .int 0, .int 0, .ref q_7, .long 0, .long 0, .long 0, .ref q_8, .ref q_9, .ref q_10, .int 0, .null])), _, _, _, _, _, _, _, _, _, _] := hD
  refine lv_aload_n hx hb dX8_init_83 rfl (lv_at hl 0 rfl) ?_
  refine lv_bipush (v := 44) hx hb dX8_init_84 hkb_44 ?_
  refine va_newa (atype := .int) (ty := .int) (N' := 44) (a0 := (44, .inl hsz)) hx hb acI rfl hK hP hD hS hA (fun _ => rfl) (by decide) (by decide) (by decide) (Nat.le_of_ble_eq_true rfl) (Nat.le_of_ble_eq_true rfl) dX8_init_86 (fun q_11 cA H hK2 hP hD hS => ?_)
  obtain rfl : cA = k 0 := hs_cAI hK2
  have hP : va_P D vwCl [(t, .inr (7, [.ref q_1, .ref q_2, .ref q_3, .int 0, .int 0, .ref q_4, .int 0, .int 0, .int 0, .int 0, .ref q_5, .int 0, .int 0, .int 0, .int 0, .int 0, .int 0, .int 0, .ref q_6, .int 0, .int 0, .int 0, .int 0, .ref q_7, .long 0, .long 0, .long 0, .ref q_8, .ref q_9, .ref q_10, .int 0, .null])), oqI k q_1 132 (hsz), oqI k q_2 44 (hsz), oqB k q_3 2 (hsz), oqI k q_4 44 (hsz), oqI k q_5 160 (hsz), oqI k q_6 5 (hsz), oqI k q_7 25 (hsz), oqI k q_8 4 (hsz), oqI k q_9 4 (hsz), oqI k q_10 160 (hsz), oqI k q_11 44 (hsz)] H := hP
  have hD : va_D A [(t, .inr (7, [.ref q_1, .ref q_2, .ref q_3, .int 0, .int 0, .ref q_4, .int 0, .int 0, .int 0, .int 0, .ref q_5, .int 0, .int 0, .int 0, .int 0, .int 0, .int 0, .int 0, .ref q_6, .int 0, .int 0, .int 0, .int 0, .ref q_7, .long 0, .long 0, .long 0, .ref q_8, .ref q_9, .ref q_10, .int 0, .null])), oqI k q_1 132 (hsz), oqI k q_2 44 (hsz), oqB k q_3 2 (hsz), oqI k q_4 44 (hsz), oqI k q_5 160 (hsz), oqI k q_6 5 (hsz), oqI k q_7 25 (hsz), oqI k q_8 4 (hsz), oqI k q_9 4 (hsz), oqI k q_10 160 (hsz), oqI k q_11 44 (hsz)] := hD
  refine W.widen (k := 11) (n := 624) (Nat.le_of_ble_eq_true rfl) (Nat.le_of_ble_eq_true rfl) ?_
  refine va_putF (D := D) (ci := 7) (v := .ref q_11) (ty := (.array .int)) (C := RX8) (T := TX8) (N := 32) hx hb hts hiX8 tyX8 tyX8_ok nmX8 hown hK hP hD hS 0 rfl rfl 31 (Nat.le_of_ble_eq_true rfl) fl41 (fun _ h9 => h9) rfl hin rfl (by decide +kernel) rfl rfl (Nat.le_of_ble_eq_true rfl) dX8_init_88 (fun H locs hP hD hS => ?_)
  have hP : va_P D vwCl [oq7 t q_1 q_2 q_3 0 0 q_4 0 0 0 0 q_5 0 0 0 0 0 0 0 q_6 0 0 0 0 q_7 0 0 0 q_8 q_9 q_10 0 q_11, _, _, _, _, _, _, _, _, _, _, _] H := hP
  have hD : va_D A [oq7 t q_1 q_2 q_3 0 0 q_4 0 0 0 0 q_5 0 0 0 0 0 0 0 q_6 0 0 0 0 q_7 0 0 0 q_8 q_9 q_10 0 q_11, _, _, _, _, _, _, _, _, _, _, _] := hD
  refine lv_iconst (v := 0) hx hb dX8_init_91 hki_0 ?_
  refine lv_istore_n (lv' := [(1, .int 0), (0, .ref t)]) hx hb dX8_init_92 rfl hl (Nat.le_of_ble_eq_true rfl) rfl (fun ls hl => ?_)
  refine lv_iload_n hx hb dX8_init_93 rfl (lv_at hl 0 rfl) ?_
  refine lv_iconst (v := 4) hx hb dX8_init_94 hki_4 ?_
  refine lv_icmp_ge (tgt := 112) hx hb dX8_init_95 rfl (fun c_12 => absurd c_12 (by decide)) (fun c_12 => ?_)
  refine lv_aload_n hx hb dX8_init_98 rfl (lv_at hl 1 rfl) ?_
  refine va_get (D := D) (ci := 7) (v := .ref q_8) (C := RX8) (T := TX8) (N := 32) hx hb hts hiX8 hown hK hP 0 rfl rfl 27 (Nat.le_of_ble_eq_true rfl) fl32 (fun _ h9 => h9) rfl dX8_init_99 ?_
  refine lv_iload_n hx hb dX8_init_102 rfl (lv_at hl 0 rfl) ?_
  refine lv_bipush (v := (-4)) hx hb dX8_init_103 hkb_m4 ?_
  refine va_iast hx hb hK hP hD hS 8 0 rfl rfl (hs_in (by decide)) dX8_init_105 (fun H locs hP hD hS => ?_)
  have hP : va_P D vwCl [_, _, _, _, _, _, _, _, oqI k q_8 4 (upd hsz 0 (-4)), _, _, _] H := hP
  have hD : va_D A [_, _, _, _, _, _, _, _, oqI k q_8 4 (upd hsz 0 (-4)), _, _, _] := hD
  refine lv_iinc (v := 1) (lv' := [(1, .int 1), (0, .ref t)]) hx hb dX8_init_106 hl (k := 0) rfl (by decide) (Nat.le_of_ble_eq_true rfl) rfl (fun ls hl => ?_)
  refine lv_goto (tgt := 93) hx hb dX8_init_109 rfl ?_
  refine lv_iload_n hx hb dX8_init_93 rfl (lv_at hl 0 rfl) ?_
  refine lv_iconst (v := 4) hx hb dX8_init_94 hki_4 ?_
  refine lv_icmp_ge (tgt := 112) hx hb dX8_init_95 rfl (fun c_13 => absurd c_13 (by decide)) (fun c_13 => ?_)
  refine lv_aload_n hx hb dX8_init_98 rfl (lv_at hl 1 rfl) ?_
  refine va_get (D := D) (ci := 7) (v := .ref q_8) (C := RX8) (T := TX8) (N := 32) hx hb hts hiX8 hown hK hP 0 rfl rfl 27 (Nat.le_of_ble_eq_true rfl) fl32 (fun _ h9 => h9) rfl dX8_init_99 ?_
  refine lv_iload_n hx hb dX8_init_102 rfl (lv_at hl 0 rfl) ?_
  refine lv_bipush (v := (-4)) hx hb dX8_init_103 hkb_m4 ?_
  refine va_iast hx hb hK hP hD hS 8 0 rfl rfl (hs_in (by decide)) dX8_init_105 (fun H locs hP hD hS => ?_)
  have hP : va_P D vwCl [_, _, _, _, _, _, _, _, oqI k q_8 4 (upd (upd hsz 0 (-4)) 1 (-4)), _, _, _] H := hP
  have hD : va_D A [_, _, _, _, _, _, _, _, oqI k q_8 4 (upd (upd hsz 0 (-4)) 1 (-4)), _, _, _] := hD
  refine lv_iinc (v := 2) (lv' := [(1, .int 2), (0, .ref t)]) hx hb dX8_init_106 hl (k := 0) rfl (by decide) (Nat.le_of_ble_eq_true rfl) rfl (fun ls hl => ?_)
  refine lv_goto (tgt := 93) hx hb dX8_init_109 rfl ?_
  refine lv_iload_n hx hb dX8_init_93 rfl (lv_at hl 0 rfl) ?_
  refine lv_iconst (v := 4) hx hb dX8_init_94 hki_4 ?_
  refine lv_icmp_ge (tgt := 112) hx hb dX8_init_95 rfl (fun c_14 => absurd c_14 (by decide)) (fun c_14 => ?_)
  refine lv_aload_n hx hb dX8_init_98 rfl (lv_at hl 1 rfl) ?_
  refine va_get (D := D) (ci := 7) (v := .ref q_8) (C := RX8) (T := TX8) (N := 32) hx hb hts hiX8 hown hK hP 0 rfl rfl 27 (Nat.le_of_ble_eq_true rfl) fl32 (fun _ h9 => h9) rfl dX8_init_99 ?_
  refine lv_iload_n hx hb dX8_init_102 rfl (lv_at hl 0 rfl) ?_
  refine lv_bipush (v := (-4)) hx hb dX8_init_103 hkb_m4 ?_
  refine va_iast hx hb hK hP hD hS 8 0 rfl rfl (hs_in (by decide)) dX8_init_105 (fun H locs hP hD hS => ?_)
  have hP : va_P D vwCl [_, _, _, _, _, _, _, _, oqI k q_8 4 (upd (upd (upd hsz 0 (-4)) 1 (-4)) 2 (-4)), _, _, _] H := hP
  have hD : va_D A [_, _, _, _, _, _, _, _, oqI k q_8 4 (upd (upd (upd hsz 0 (-4)) 1 (-4)) 2 (-4)), _, _, _] := hD
  refine lv_iinc (v := 3) (lv' := [(1, .int 3), (0, .ref t)]) hx hb dX8_init_106 hl (k := 0) rfl (by decide) (Nat.le_of_ble_eq_true rfl) rfl (fun ls hl => ?_)
  refine lv_goto (tgt := 93) hx hb dX8_init_109 rfl ?_
  refine lv_iload_n hx hb dX8_init_93 rfl (lv_at hl 0 rfl) ?_
  refine lv_iconst (v := 4) hx hb dX8_init_94 hki_4 ?_
  refine lv_icmp_ge (tgt := 112) hx hb dX8_init_95 rfl (fun c_15 => absurd c_15 (by decide)) (fun c_15 => ?_)
  refine lv_aload_n hx hb dX8_init_98 rfl (lv_at hl 1 rfl) ?_
  refine va_get (D := D) (ci := 7) (v := .ref q_8) (C := RX8) (T := TX8) (N := 32) hx hb hts hiX8 hown hK hP 0 rfl rfl 27 (Nat.le_of_ble_eq_true rfl) fl32 (fun _ h9 => h9) rfl dX8_init_99 ?_
  refine lv_iload_n hx hb dX8_init_102 rfl (lv_at hl 0 rfl) ?_
  refine lv_bipush (v := (-4)) hx hb dX8_init_103 hkb_m4 ?_
  refine va_iast hx hb hK hP hD hS 8 0 rfl rfl (hs_in (by decide)) dX8_init_105 (fun H locs hP hD hS => ?_)
  have hE : upd (upd (upd (upd hsz 0 (-4)) 1 (-4)) 2 (-4)) 3 (-4) = hsl := rfl
  have hP : va_P D vwCl [_, _, _, _, _, _, _, _, oqI k q_8 4 (upd (upd (upd (upd hsz 0 (-4)) 1 (-4)) 2 (-4)) 3 (-4)), _, _, _] H := hP
  have hD : va_D A [_, _, _, _, _, _, _, _, oqI k q_8 4 (upd (upd (upd (upd hsz 0 (-4)) 1 (-4)) 2 (-4)) 3 (-4)), _, _, _] := hD
  rw [hE] at hP hD
  refine lv_iinc (v := 4) (lv' := [(1, .int 4), (0, .ref t)]) hx hb dX8_init_106 hl (k := 0) rfl (by decide) (Nat.le_of_ble_eq_true rfl) rfl (fun ls hl => ?_)
  refine lv_goto (tgt := 93) hx hb dX8_init_109 rfl ?_
  refine lv_iload_n hx hb dX8_init_93 rfl (lv_at hl 0 rfl) ?_
  refine lv_iconst (v := 4) hx hb dX8_init_94 hki_4 ?_
  refine lv_icmp_ge (tgt := 112) hx hb dX8_init_95 rfl (fun c_16 => ?_) (fun c_16 => absurd c_16 (by decide))
  refine lv_aload_n hx hb dX8_init_112 rfl (lv_at hl 1 rfl) ?_
  refine hs_cvM (va_runV (As := []) (rest := []) ⟨hx, hb, hml, hown, hts⟩ (m_firstDraft_z l D k _ t q_1 q_2 q_3 0 0 q_4 0 0 0 0 q_5 0 0 0 0 0 0 0 q_6 0 0 0 0 q_7 0 0 0 q_8 q_9 q_10 0 q_11) (cwV 0 hts gX8_init_X8_firstDraft rfl rfl rfl ⟨rfl, hq_X8_firstDraft⟩ ⟨Nat.le_of_ble_eq_true rfl, Nat.le_of_ble_eq_true rfl⟩) (hs_preV hK hN (hs_subP (w := [_, _]) hP [0, 4] rfl) (hD.sub (ws' := [_, _]) [0, 4] (hs_upnd rfl) rfl) (ci := 7) (q0 := 0) rfl rfl) rfl rfl hl.1 rfl (lv_room (Nat.le_of_ble_eq_true rfl)) dX8_init_113 ⟨Nat.le_of_ble_eq_true rfl, Nat.le_of_ble_eq_true rfl⟩) hP hD hS hA [false, true, true, true, false, true, true, true, true, true, true, true] [_, _, _, _, _, _, _, _, _, _] [_, _] rfl [0, 1] rfl [0, 1] (fun u_19 => [_, _]) (fun _ => rfl) (hs_upnd rfl) [false, true, true, true, false, true, true, true, true, true, true, true] (fun u_19 => [_, _, _, _, _, _, _, _, _, _, _, _]) (fun _ => rfl) (fun u_19 H locs hw_18 hP hD hS => ?_)
  refine lv_aload_n hx hb dX8_init_116 rfl (lv_at hl 1 rfl) ?_
  refine hs_cvM (va_runV (As := []) (rest := []) ⟨hx, hb, hml, hown, hts⟩ (m_keepDraft_z l D k _ t q_1 q_2 q_3 0 0 q_4 0 2 0 (-4) q_5 0 0 0 0 0 0 0 q_6 0 0 0 0 q_7 0 0 0 q_8 q_9 q_10 0 q_11) (cwV 0 hts gX8_init_X8_keepDraft rfl rfl rfl ⟨rfl, hq_X8_keepDraft⟩ ⟨Nat.le_of_ble_eq_true rfl, Nat.le_of_ble_eq_true rfl⟩) (hs_preV hK hN (hs_subP (w := [_, _, _, _]) hP [0, 1, 3, 4] rfl) (hD.sub (ws' := [_, _, _, _]) [0, 1, 3, 4] (hs_upnd rfl) rfl) (ci := 7) (q0 := 0) rfl rfl) rfl rfl hl.1 rfl (lv_room (Nat.le_of_ble_eq_true rfl)) dX8_init_117 ⟨Nat.le_of_ble_eq_true rfl, Nat.le_of_ble_eq_true rfl⟩) hP hD hS hA [false, false, true, false, false, true, true, true, true, true, true, true] [_, _, _, _, _, _, _, _] [_, _, _, _] rfl [0, 1, 2, 3] rfl [0, 1, 2, 3] (fun u_22 => [_, _, _, _]) (fun _ => rfl) (hs_upnd rfl) [false, false, true, false, false, true, true, true, true, true, true, true] (fun u_22 => [_, _, _, _, _, _, _, _, _, _, _, _]) (fun _ => rfl) (fun u_22 H locs hw_21 hP hD hS => ?_)
  refine W.widen (k := 11) (n := 624) (Nat.le_of_ble_eq_true rfl) (Nat.le_of_ble_eq_true rfl) ?_
  exact hs_vret hx hb hr hlocks hK hP hD hS (fun i => ([q_1, q_2, q_3, q_4, q_5, q_6, q_7, q_8, q_9, q_10, q_11] : List Nat).getD i 0) [0, 1, 2, 3, 4, 5, 6, 7, 8, 9, 10, 11] rfl (hs_upnd rfl) dX8_init_120 (trivial)
