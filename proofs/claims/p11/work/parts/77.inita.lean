set_option maxHeartbeats 4000000 in
set_option maxRecDepth 100000 in
theorem c_begin (l : Launch) (D : va_G) (k : Nat → ClassId) (sz : Nat) (t : Nat) (t_weights : Nat) (t_kindOf : Nat) (t_light : Nat) (t_heavy : Nat) (t_seenBy : Nat) (t_seenCut : Nat) (t_seenFound : Nat) (t_cellCount : Int32) (t_peopleCount : Int32) (t_slip : Int32) (t_fine : Int32) (t_appealCount : Int32) (t_halfCount : Int32) (t_pairCount : Int32) (t_seenCount : Int32) (w : Nat → Int32)  : MV l yX6_begin wsX6_begin ({ frames := 0, cells := 0, slots := 0, locals := 0 }) D k [.ref t] [oq5 t t_weights t_kindOf t_light t_heavy t_seenBy t_seenCut t_seenFound t_cellCount t_peopleCount t_slip t_fine t_appealCount t_halfCount t_pairCount t_seenCount, oqI k t_weights 8 (w)] sz (fun (u : Unit) => True) (fun (u : Unit) => [oq5 t t_weights t_kindOf t_light t_heavy t_seenBy t_seenCut t_seenFound 2 0 0 0 0 2 0 0, oqI k t_weights 8 (upd (upd w 0 1) 1 1)]) := by
  refine Met.ofW (cc := cX6_begin) (maxL := 1) (ret := none) (by decide) rfl ?_
  intro p e s m args below meth c s₁ B hml hv
  obtain ⟨rfl, hsz, hP, hK, hD0, hN⟩ := hv
  have hx := B.exec
  have hb := B.bytes
  have hr := B.returns
  have hlocks := B.notSynchronized
  have hts := atoms_spec (ws := wsX6_begin) B.pre
  have hown : s.vm.findClass RX6 = some m.cls := findClass_of_methodNamed B.named
  have hiX6 : ∀ w ∈ u_ws RX6 TX6 15, w ∈ wsX6_begin := fun w9 hw9 => (List.mem_cons_of_mem _ (List.mem_append_right _ hw9))
  have fl9 := hts (.fieldLink RX6 9 "HalfScales$Thing" "weights" "[I") (List.mem_of_getElem? (i := 1) rfl)
  have fl36 := hts (.fieldLink RX6 36 "HalfScales$Thing" "cellCount" "I") (List.mem_of_getElem? (i := 2) rfl)
  have fl40 := hts (.fieldLink RX6 40 "HalfScales$Thing" "peopleCount" "I") (List.mem_of_getElem? (i := 3) rfl)
  have fl43 := hts (.fieldLink RX6 43 "HalfScales$Thing" "slip" "I") (List.mem_of_getElem? (i := 4) rfl)
  have fl46 := hts (.fieldLink RX6 46 "HalfScales$Thing" "fine" "I") (List.mem_of_getElem? (i := 5) rfl)
  have fl49 := hts (.fieldLink RX6 49 "HalfScales$Thing" "appealCount" "I") (List.mem_of_getElem? (i := 6) rfl)
  have fl52 := hts (.fieldLink RX6 52 "HalfScales$Thing" "halfCount" "I") (List.mem_of_getElem? (i := 7) rfl)
  have fl55 := hts (.fieldLink RX6 55 "HalfScales$Thing" "pairCount" "I") (List.mem_of_getElem? (i := 8) rfl)
  have fl58 := hts (.fieldLink RX6 58 "HalfScales$Thing" "seenCount" "I") (List.mem_of_getElem? (i := 9) rfl)
  subst hsz
  have hD := hD0.self (sz := s.heap.size)
  generalize hAe : va_A [oq5 t t_weights t_kindOf t_light t_heavy t_seenBy t_seenCut t_seenFound t_cellCount t_peopleCount t_slip t_fine t_appealCount t_halfCount t_pairCount t_seenCount, oqI k t_weights 8 (w)] s.heap.size = A at hD ⊢
  have hA : ∀ q : Nat, s.heap.size ≤ q → A q := fun q h => by rw [← hAe]; exact Or.inr h
  have hS : va_S A s.heap s.heap [] := va_S.rf
  have hl := lv_entry ([.ref t]) (n := 1) (Nat.le_of_ble_eq_true rfl)
  rw [lg_entry_eq]
  generalize (lg_sl ([.ref t]) ++ List.replicate (1 - (lg_sl ([.ref t])).length) Slot.unset).toArray = ls at hl ⊢
  have hl : lv_has ls 1 [(0, .ref t)] := hl
  have hP : va_P D vwCl [oq5 t t_weights t_kindOf t_light t_heavy t_seenBy t_seenCut t_seenFound t_cellCount t_peopleCount t_slip t_fine t_appealCount t_halfCount t_pairCount t_seenCount, oqI k t_weights 8 (w)] s.heap := hP
  refine lv_aload_n hx hb dX6_begin_0 rfl (lv_at hl 0 rfl) ?_
  refine va_get (D := D) (ci := 5) (v := .ref t_weights) (C := RX6) (T := TX6) (N := 15) hx hb hts hiX6 hown hK hP 0 rfl rfl 0 (by decide) fl9 (fun _ h9 => h9) rfl dX6_begin_1 ?_
  refine lv_iconst (v := 0) hx hb dX6_begin_4 (by decide) ?_
  refine lv_iconst (v := 1) hx hb dX6_begin_5 (by decide) ?_
  refine va_iast hx hb hK hP hD hS 1 0 rfl rfl (hs_in (by decide)) dX6_begin_6 (fun H locs hP hD hS => ?_)
  have hP : va_P D vwCl [oq5 t t_weights t_kindOf t_light t_heavy t_seenBy t_seenCut t_seenFound t_cellCount t_peopleCount t_slip t_fine t_appealCount t_halfCount t_pairCount t_seenCount, oqI k t_weights 8 (upd w 0 1)] H := hP
  have hD : va_D A [oq5 t t_weights t_kindOf t_light t_heavy t_seenBy t_seenCut t_seenFound t_cellCount t_peopleCount t_slip t_fine t_appealCount t_halfCount t_pairCount t_seenCount, oqI k t_weights 8 (upd w 0 1)] := hD
  refine lv_aload_n hx hb dX6_begin_7 rfl (lv_at hl 0 rfl) ?_
  refine va_get (D := D) (ci := 5) (v := .ref t_weights) (C := RX6) (T := TX6) (N := 15) hx hb hts hiX6 hown hK hP 0 rfl rfl 0 (by decide) fl9 (fun _ h9 => h9) rfl dX6_begin_8 ?_
  refine lv_iconst (v := 1) hx hb dX6_begin_11 (by decide) ?_
  refine lv_iconst (v := 1) hx hb dX6_begin_12 (by decide) ?_
  refine va_iast hx hb hK hP hD hS 1 0 rfl rfl (hs_in (by decide)) dX6_begin_13 (fun H locs hP hD hS => ?_)
  have hP : va_P D vwCl [oq5 t t_weights t_kindOf t_light t_heavy t_seenBy t_seenCut t_seenFound t_cellCount t_peopleCount t_slip t_fine t_appealCount t_halfCount t_pairCount t_seenCount, oqI k t_weights 8 (upd (upd w 0 1) 1 1)] H := hP
  have hD : va_D A [oq5 t t_weights t_kindOf t_light t_heavy t_seenBy t_seenCut t_seenFound t_cellCount t_peopleCount t_slip t_fine t_appealCount t_halfCount t_pairCount t_seenCount, oqI k t_weights 8 (upd (upd w 0 1) 1 1)] := hD
  refine lv_aload_n hx hb dX6_begin_14 rfl (lv_at hl 0 rfl) ?_
  refine lv_iconst (v := 2) hx hb dX6_begin_15 (by decide) ?_
  refine va_put (D := D) (ci := 5) (v := .int 2) (ty := .int) (C := RX6) (T := TX6) (N := 15) hx hb hts hiX6 tyX6 tyX6_ok nmX6 hown hK hP hD hS 0 rfl rfl 7 (by decide) fl36 (fun _ h9 => h9) rfl (by decide +kernel) rfl rfl (Nat.le_of_ble_eq_true rfl) dX6_begin_16 (fun H locs hP hD hS => ?_)
  have hP : va_P D vwCl [oq5 t t_weights t_kindOf t_light t_heavy t_seenBy t_seenCut t_seenFound 2 t_peopleCount t_slip t_fine t_appealCount t_halfCount t_pairCount t_seenCount, oqI k t_weights 8 (upd (upd w 0 1) 1 1)] H := hP
  have hD : va_D A [oq5 t t_weights t_kindOf t_light t_heavy t_seenBy t_seenCut t_seenFound 2 t_peopleCount t_slip t_fine t_appealCount t_halfCount t_pairCount t_seenCount, oqI k t_weights 8 (upd (upd w 0 1) 1 1)] := hD
  refine lv_aload_n hx hb dX6_begin_19 rfl (lv_at hl 0 rfl) ?_
  refine lv_iconst (v := 0) hx hb dX6_begin_20 (by decide) ?_
  refine va_put (D := D) (ci := 5) (v := .int 0) (ty := .int) (C := RX6) (T := TX6) (N := 15) hx hb hts hiX6 tyX6 tyX6_ok nmX6 hown hK hP hD hS 0 rfl rfl 8 (by decide) fl40 (fun _ h9 => h9) rfl (by decide +kernel) rfl rfl (Nat.le_of_ble_eq_true rfl) dX6_begin_21 (fun H locs hP hD hS => ?_)
  have hP : va_P D vwCl [oq5 t t_weights t_kindOf t_light t_heavy t_seenBy t_seenCut t_seenFound 2 0 t_slip t_fine t_appealCount t_halfCount t_pairCount t_seenCount, oqI k t_weights 8 (upd (upd w 0 1) 1 1)] H := hP
  have hD : va_D A [oq5 t t_weights t_kindOf t_light t_heavy t_seenBy t_seenCut t_seenFound 2 0 t_slip t_fine t_appealCount t_halfCount t_pairCount t_seenCount, oqI k t_weights 8 (upd (upd w 0 1) 1 1)] := hD
  refine lv_aload_n hx hb dX6_begin_24 rfl (lv_at hl 0 rfl) ?_
  refine lv_iconst (v := 0) hx hb dX6_begin_25 (by decide) ?_
  refine va_put (D := D) (ci := 5) (v := .int 0) (ty := .int) (C := RX6) (T := TX6) (N := 15) hx hb hts hiX6 tyX6 tyX6_ok nmX6 hown hK hP hD hS 0 rfl rfl 9 (by decide) fl43 (fun _ h9 => h9) rfl (by decide +kernel) rfl rfl (Nat.le_of_ble_eq_true rfl) dX6_begin_26 (fun H locs hP hD hS => ?_)
  have hP : va_P D vwCl [oq5 t t_weights t_kindOf t_light t_heavy t_seenBy t_seenCut t_seenFound 2 0 0 t_fine t_appealCount t_halfCount t_pairCount t_seenCount, oqI k t_weights 8 (upd (upd w 0 1) 1 1)] H := hP
  have hD : va_D A [oq5 t t_weights t_kindOf t_light t_heavy t_seenBy t_seenCut t_seenFound 2 0 0 t_fine t_appealCount t_halfCount t_pairCount t_seenCount, oqI k t_weights 8 (upd (upd w 0 1) 1 1)] := hD
  refine lv_aload_n hx hb dX6_begin_29 rfl (lv_at hl 0 rfl) ?_
  refine lv_iconst (v := 0) hx hb dX6_begin_30 (by decide) ?_
  refine va_put (D := D) (ci := 5) (v := .int 0) (ty := .int) (C := RX6) (T := TX6) (N := 15) hx hb hts hiX6 tyX6 tyX6_ok nmX6 hown hK hP hD hS 0 rfl rfl 10 (by decide) fl46 (fun _ h9 => h9) rfl (by decide +kernel) rfl rfl (Nat.le_of_ble_eq_true rfl) dX6_begin_31 (fun H locs hP hD hS => ?_)
  have hP : va_P D vwCl [oq5 t t_weights t_kindOf t_light t_heavy t_seenBy t_seenCut t_seenFound 2 0 0 0 t_appealCount t_halfCount t_pairCount t_seenCount, oqI k t_weights 8 (upd (upd w 0 1) 1 1)] H := hP
  have hD : va_D A [oq5 t t_weights t_kindOf t_light t_heavy t_seenBy t_seenCut t_seenFound 2 0 0 0 t_appealCount t_halfCount t_pairCount t_seenCount, oqI k t_weights 8 (upd (upd w 0 1) 1 1)] := hD
  refine lv_aload_n hx hb dX6_begin_34 rfl (lv_at hl 0 rfl) ?_
  refine lv_iconst (v := 0) hx hb dX6_begin_35 (by decide) ?_
  refine va_put (D := D) (ci := 5) (v := .int 0) (ty := .int) (C := RX6) (T := TX6) (N := 15) hx hb hts hiX6 tyX6 tyX6_ok nmX6 hown hK hP hD hS 0 rfl rfl 11 (by decide) fl49 (fun _ h9 => h9) rfl (by decide +kernel) rfl rfl (Nat.le_of_ble_eq_true rfl) dX6_begin_36 (fun H locs hP hD hS => ?_)
  have hP : va_P D vwCl [oq5 t t_weights t_kindOf t_light t_heavy t_seenBy t_seenCut t_seenFound 2 0 0 0 0 t_halfCount t_pairCount t_seenCount, oqI k t_weights 8 (upd (upd w 0 1) 1 1)] H := hP
  have hD : va_D A [oq5 t t_weights t_kindOf t_light t_heavy t_seenBy t_seenCut t_seenFound 2 0 0 0 0 t_halfCount t_pairCount t_seenCount, oqI k t_weights 8 (upd (upd w 0 1) 1 1)] := hD
  refine lv_aload_n hx hb dX6_begin_39 rfl (lv_at hl 0 rfl) ?_
  refine lv_iconst (v := 2) hx hb dX6_begin_40 (by decide) ?_
  refine va_put (D := D) (ci := 5) (v := .int 2) (ty := .int) (C := RX6) (T := TX6) (N := 15) hx hb hts hiX6 tyX6 tyX6_ok nmX6 hown hK hP hD hS 0 rfl rfl 12 (by decide) fl52 (fun _ h9 => h9) rfl (by decide +kernel) rfl rfl (Nat.le_of_ble_eq_true rfl) dX6_begin_41 (fun H locs hP hD hS => ?_)
  have hP : va_P D vwCl [oq5 t t_weights t_kindOf t_light t_heavy t_seenBy t_seenCut t_seenFound 2 0 0 0 0 2 t_pairCount t_seenCount, oqI k t_weights 8 (upd (upd w 0 1) 1 1)] H := hP
  have hD : va_D A [oq5 t t_weights t_kindOf t_light t_heavy t_seenBy t_seenCut t_seenFound 2 0 0 0 0 2 t_pairCount t_seenCount, oqI k t_weights 8 (upd (upd w 0 1) 1 1)] := hD
  refine lv_aload_n hx hb dX6_begin_44 rfl (lv_at hl 0 rfl) ?_
  refine lv_iconst (v := 0) hx hb dX6_begin_45 (by decide) ?_
  refine va_put (D := D) (ci := 5) (v := .int 0) (ty := .int) (C := RX6) (T := TX6) (N := 15) hx hb hts hiX6 tyX6 tyX6_ok nmX6 hown hK hP hD hS 0 rfl rfl 13 (by decide) fl55 (fun _ h9 => h9) rfl (by decide +kernel) rfl rfl (Nat.le_of_ble_eq_true rfl) dX6_begin_46 (fun H locs hP hD hS => ?_)
  have hP : va_P D vwCl [oq5 t t_weights t_kindOf t_light t_heavy t_seenBy t_seenCut t_seenFound 2 0 0 0 0 2 0 t_seenCount, oqI k t_weights 8 (upd (upd w 0 1) 1 1)] H := hP
  have hD : va_D A [oq5 t t_weights t_kindOf t_light t_heavy t_seenBy t_seenCut t_seenFound 2 0 0 0 0 2 0 t_seenCount, oqI k t_weights 8 (upd (upd w 0 1) 1 1)] := hD
  refine lv_aload_n hx hb dX6_begin_49 rfl (lv_at hl 0 rfl) ?_
  refine lv_iconst (v := 0) hx hb dX6_begin_50 (by decide) ?_
  refine va_put (D := D) (ci := 5) (v := .int 0) (ty := .int) (C := RX6) (T := TX6) (N := 15) hx hb hts hiX6 tyX6 tyX6_ok nmX6 hown hK hP hD hS 0 rfl rfl 14 (by decide) fl58 (fun _ h9 => h9) rfl (by decide +kernel) rfl rfl (Nat.le_of_ble_eq_true rfl) dX6_begin_51 (fun H locs hP hD hS => ?_)
  have hP : va_P D vwCl [oq5 t t_weights t_kindOf t_light t_heavy t_seenBy t_seenCut t_seenFound 2 0 0 0 0 2 0 0, oqI k t_weights 8 (upd (upd w 0 1) 1 1)] H := hP
  have hD : va_D A [oq5 t t_weights t_kindOf t_light t_heavy t_seenBy t_seenCut t_seenFound 2 0 0 0 0 2 0 0, oqI k t_weights 8 (upd (upd w 0 1) 1 1)] := hD
  exact hs_vret hx hb hr hlocks hK hP hD hS () [0, 1] rfl (by decide) dX6_begin_54 (trivial)

set_option maxHeartbeats 4000000 in
set_option maxRecDepth 100000 in
theorem c_Thing_init (l : Launch) (D : va_G) (k : Nat → ClassId) (sz : Nat) (t : Nat)  : MV l yX6_init wsX6_init ({ frames := 1, cells := 7, slots := 46, locals := 20 }) D k [.ref t] [(t, .inr (5, [.null, .null, .null, .null, .null, .null, .null, .int 0, .int 0, .int 0, .int 0, .int 0, .int 0, .int 0, .int 0]))] sz (fun (u : Nat → Nat) => True) (fun (u : Nat → Nat) => [oq5 t (u 0) (u 1) (u 2) (u 3) (u 4) (u 5) (u 6) 2 0 0 0 0 2 0 0, oqI k (u 0) 8 (hsw), oqI k (u 1) 4 (hsz), oqI k (u 2) 8 (hsz), oqI k (u 3) 8 (hsz), oqI k (u 4) 6 (hsz), oqI k (u 5) 6 (hsz), oqI k (u 6) 6 (hsz)]) := by
  refine Met.ofW (cc := cX6_init) (maxL := 1) (ret := none) (by decide) rfl ?_
  intro p e s m args below meth c s₁ B hml hv
  obtain ⟨rfl, hsz, hP, hK, hD0, hN⟩ := hv
  have hx := B.exec
  have hb := B.bytes
  have hr := B.returns
  have hlocks := B.notSynchronized
  have hts := atoms_spec (ws := wsX6_init) B.pre
  have hown : s.vm.findClass RX6 = some m.cls := findClass_of_methodNamed B.named
  have hin : meth.name = "<init>" := (name_of_methodNamed B.named B.method).1
  have hiX6 : ∀ w ∈ u_ws RX6 TX6 15, w ∈ wsX6_init := fun w9 hw9 => (List.mem_cons_of_mem _ (List.mem_append_right _ hw9))
  have fl9 := hts (.fieldLink RX6 9 "HalfScales$Thing" "weights" "[I") (List.mem_of_getElem? (i := 5) rfl)
  have fl15 := hts (.fieldLink RX6 15 "HalfScales$Thing" "kindOf" "[I") (List.mem_of_getElem? (i := 6) rfl)
  have fl18 := hts (.fieldLink RX6 18 "HalfScales$Thing" "light" "[I") (List.mem_of_getElem? (i := 7) rfl)
  have fl21 := hts (.fieldLink RX6 21 "HalfScales$Thing" "heavy" "[I") (List.mem_of_getElem? (i := 8) rfl)
  have fl24 := hts (.fieldLink RX6 24 "HalfScales$Thing" "seenBy" "[I") (List.mem_of_getElem? (i := 9) rfl)
  have fl27 := hts (.fieldLink RX6 27 "HalfScales$Thing" "seenCut" "[I") (List.mem_of_getElem? (i := 10) rfl)
  have fl30 := hts (.fieldLink RX6 30 "HalfScales$Thing" "seenFound" "[I") (List.mem_of_getElem? (i := 11) rfl)
  have oi1 := hts (.methodLink RX6 3 objectInit) (List.mem_of_getElem? (i := 1) rfl)
  have oi2 := hts (.instanceMethod objectInit) (List.mem_of_getElem? (i := 2) rfl)
  have oi3 := hts (.code objectInit ⟨#[0xb1]⟩ 1 none) (List.mem_of_getElem? (i := 3) rfl)
  have acI := hts (.arrayClass .int) (List.mem_of_getElem? (i := 4) rfl)
  subst hsz
  have hD := hD0.self (sz := s.heap.size)
  generalize hAe : va_A [(t, .inr (5, [.null, .null, .null, .null, .null, .null, .null, .int 0, .int 0, .int 0, .int 0, .int 0, .int 0, .int 0, .int 0]))] s.heap.size = A at hD ⊢
  have hA : ∀ q : Nat, s.heap.size ≤ q → A q := fun q h => by rw [← hAe]; exact Or.inr h
  have hS : va_S A s.heap s.heap [] := va_S.rf
  have hl := lv_entry ([.ref t]) (n := 1) (Nat.le_of_ble_eq_true rfl)
  rw [lg_entry_eq]
  generalize (lg_sl ([.ref t]) ++ List.replicate (1 - (lg_sl ([.ref t])).length) Slot.unset).toArray = ls at hl ⊢
  have hl : lv_has ls 1 [(0, .ref t)] := hl
  have hP : va_P D vwCl [(t, .inr (5, [.null, .null, .null, .null, .null, .null, .null, .int 0, .int 0, .int 0, .int 0, .int 0, .int 0, .int 0, .int 0]))] s.heap := hP
  refine lv_aload_n hx hb dX6_init_0 rfl (lv_at hl 0 rfl) ?_
  refine W.objInit hx hb hown oi1 oi2 oi3 rfl (by rw [hml]; exact hl.1) rfl dX6_init_1 (Nat.le_of_ble_eq_true rfl) (Nat.le_of_ble_eq_true rfl) ?_
  refine W.eq (g2 := F0 m 4 ls []) rfl ?_
  refine lv_aload_n hx hb dX6_init_4 rfl (lv_at hl 0 rfl) ?_
  refine lv_bipush (v := 8) hx hb dX6_init_5 (by decide) ?_
  refine va_newa (atype := .int) (ty := .int) (N' := 8) (a0 := (8, .inl hsz)) hx hb acI rfl hK hP hD hS hA (fun _ => rfl) (by decide) (by decide) (by decide) (Nat.le_of_ble_eq_true rfl) (Nat.le_of_ble_eq_true rfl) dX6_init_7 (fun q_1 cA H hK2 hP hD hS => ?_)
  obtain rfl : cA = k 0 := hs_cAI hK2
  have hP : va_P D vwCl [(t, .inr (5, [.null, .null, .null, .null, .null, .null, .null, .int 0, .int 0, .int 0, .int 0, .int 0, .int 0, .int 0, .int 0])), oqI k q_1 8 (hsz)] H := hP
  have hD : va_D A [(t, .inr (5, [.null, .null, .null, .null, .null, .null, .null, .int 0, .int 0, .int 0, .int 0, .int 0, .int 0, .int 0, .int 0])), oqI k q_1 8 (hsz)] := hD
  refine W.widen (k := 1) (n := 8) (Nat.le_of_ble_eq_true rfl) (Nat.le_of_ble_eq_true rfl) ?_
  refine va_putF (D := D) (ci := 5) (v := .ref q_1) (ty := (.array .int)) (C := RX6) (T := TX6) (N := 15) hx hb hts hiX6 tyX6 tyX6_ok nmX6 hown hK hP hD hS 0 rfl rfl 0 (by decide) fl9 (fun _ h9 => h9) rfl hin rfl (by decide +kernel) rfl rfl (Nat.le_of_ble_eq_true rfl) dX6_init_9 (fun H locs hP hD hS => ?_)
  have hP : va_P D vwCl [(t, .inr (5, [.ref q_1, .null, .null, .null, .null, .null, .null, .int 0, .int 0, .int 0, .int 0, .int 0, .int 0, .int 0, .int 0])), oqI k q_1 8 (hsz)] H := hP
  have hD : va_D A [(t, .inr (5, [.ref q_1, .null, .null, .null, .null, .null, .null, .int 0, .int 0, .int 0, .int 0, .int 0, .int 0, .int 0, .int 0])), oqI k q_1 8 (hsz)] := hD
  refine lv_aload_n hx hb dX6_init_12 rfl (lv_at hl 0 rfl) ?_
  refine lv_iconst (v := 4) hx hb dX6_init_13 (by decide) ?_
  refine va_newa (atype := .int) (ty := .int) (N' := 4) (a0 := (4, .inl hsz)) hx hb acI rfl hK hP hD hS hA (fun _ => rfl) (by decide) (by decide) (by decide) (Nat.le_of_ble_eq_true rfl) (Nat.le_of_ble_eq_true rfl) dX6_init_14 (fun q_2 cA H hK2 hP hD hS => ?_)
  obtain rfl : cA = k 0 := hs_cAI hK2
  have hP : va_P D vwCl [(t, .inr (5, [.ref q_1, .null, .null, .null, .null, .null, .null, .int 0, .int 0, .int 0, .int 0, .int 0, .int 0, .int 0, .int 0])), oqI k q_1 8 (hsz), oqI k q_2 4 (hsz)] H := hP
  have hD : va_D A [(t, .inr (5, [.ref q_1, .null, .null, .null, .null, .null, .null, .int 0, .int 0, .int 0, .int 0, .int 0, .int 0, .int 0, .int 0])), oqI k q_1 8 (hsz), oqI k q_2 4 (hsz)] := hD
  refine W.widen (k := 2) (n := 12) (Nat.le_of_ble_eq_true rfl) (Nat.le_of_ble_eq_true rfl) ?_
  refine va_putF (D := D) (ci := 5) (v := .ref q_2) (ty := (.array .int)) (C := RX6) (T := TX6) (N := 15) hx hb hts hiX6 tyX6 tyX6_ok nmX6 hown hK hP hD hS 0 rfl rfl 1 (by decide) fl15 (fun _ h9 => h9) rfl hin rfl (by decide +kernel) rfl rfl (Nat.le_of_ble_eq_true rfl) dX6_init_16 (fun H locs hP hD hS => ?_)
  have hP : va_P D vwCl [(t, .inr (5, [.ref q_1, .ref q_2, .null, .null, .null, .null, .null, .int 0, .int 0, .int 0, .int 0, .int 0, .int 0, .int 0, .int 0])), oqI k q_1 8 (hsz), oqI k q_2 4 (hsz)] H := hP
  have hD : va_D A [(t, .inr (5, [.ref q_1, .ref q_2, .null, .null, .null, .null, .null, .int 0, .int 0, .int 0, .int 0, .int 0, .int 0, .int 0, .int 0])), oqI k q_1 8 (hsz), oqI k q_2 4 (hsz)] := hD
  refine lv_aload_n hx hb dX6_init_19 rfl (lv_at hl 0 rfl) ?_
  refine lv_bipush (v := 8) hx hb dX6_init_20 (by decide) ?_
  refine va_newa (atype := .int) (ty := .int) (N' := 8) (a0 := (8, .inl hsz)) hx hb acI rfl hK hP hD hS hA (fun _ => rfl) (by decide) (by decide) (by decide) (Nat.le_of_ble_eq_true rfl) (Nat.le_of_ble_eq_true rfl) dX6_init_22 (fun q_3 cA H hK2 hP hD hS => ?_)
  obtain rfl : cA = k 0 := hs_cAI hK2
  have hP : va_P D vwCl [(t, .inr (5, [.ref q_1, .ref q_2, .null, .null, .null, .null, .null, .int 0, .int 0, .int 0, .int 0, .int 0, .int 0, .int 0, .int 0])), oqI k q_1 8 (hsz), oqI k q_2 4 (hsz), oqI k q_3 8 (hsz)] H := hP
  have hD : va_D A [(t, .inr (5, [.ref q_1, .ref q_2, .null, .null, .null, .null, .null, .int 0, .int 0, .int 0, .int 0, .int 0, .int 0, .int 0, .int 0])), oqI k q_1 8 (hsz), oqI k q_2 4 (hsz), oqI k q_3 8 (hsz)] := hD
  refine W.widen (k := 3) (n := 20) (Nat.le_of_ble_eq_true rfl) (Nat.le_of_ble_eq_true rfl) ?_
  refine va_putF (D := D) (ci := 5) (v := .ref q_3) (ty := (.array .int)) (C := RX6) (T := TX6) (N := 15) hx hb hts hiX6 tyX6 tyX6_ok nmX6 hown hK hP hD hS 0 rfl rfl 2 (by decide) fl18 (fun _ h9 => h9) rfl hin rfl (by decide +kernel) rfl rfl (Nat.le_of_ble_eq_true rfl) dX6_init_24 (fun H locs hP hD hS => ?_)
  have hP : va_P D vwCl [(t, .inr (5, [.ref q_1, .ref q_2, .ref q_3, .null, .null, .null, .null, .int 0, .int 0, .int 0, .int 0, .int 0, .int 0, .int 0, .int 0])), oqI k q_1 8 (hsz), oqI k q_2 4 (hsz), oqI k q_3 8 (hsz)] H := hP
  have hD : va_D A [(t, .inr (5, [.ref q_1, .ref q_2, .ref q_3, .null, .null, .null, .null, .int 0, .int 0, .int 0, .int 0, .int 0, .int 0, .int 0, .int 0])), oqI k q_1 8 (hsz), oqI k q_2 4 (hsz), oqI k q_3 8 (hsz)] := hD
  refine lv_aload_n hx hb dX6_init_27 rfl (lv_at hl 0 rfl) ?_
  refine lv_bipush (v := 8) hx hb dX6_init_28 (by decide) ?_
  refine va_newa (atype := .int) (ty := .int) (N' := 8) (a0 := (8, .inl hsz)) hx hb acI rfl hK hP hD hS hA (fun _ => rfl) (by decide) (by decide) (by decide) (Nat.le_of_ble_eq_true rfl) (Nat.le_of_ble_eq_true rfl) dX6_init_30 (fun q_4 cA H hK2 hP hD hS => ?_)
  obtain rfl : cA = k 0 := hs_cAI hK2
  have hP : va_P D vwCl [(t, .inr (5, [.ref q_1, .ref q_2, .ref q_3, .null, .null, .null, .null, .int 0, .int 0, .int 0, .int 0, .int 0, .int 0, .int 0, .int 0])), oqI k q_1 8 (hsz), oqI k q_2 4 (hsz), oqI k q_3 8 (hsz), oqI k q_4 8 (hsz)] H := hP
  have hD : va_D A [(t, .inr (5, [.ref q_1, .ref q_2, .ref q_3, .null, .null, .null, .null, .int 0, .int 0, .int 0, .int 0, .int 0, .int 0, .int 0, .int 0])), oqI k q_1 8 (hsz), oqI k q_2 4 (hsz), oqI k q_3 8 (hsz), oqI k q_4 8 (hsz)] := hD
  refine W.widen (k := 4) (n := 28) (Nat.le_of_ble_eq_true rfl) (Nat.le_of_ble_eq_true rfl) ?_
  refine va_putF (D := D) (ci := 5) (v := .ref q_4) (ty := (.array .int)) (C := RX6) (T := TX6) (N := 15) hx hb hts hiX6 tyX6 tyX6_ok nmX6 hown hK hP hD hS 0 rfl rfl 3 (by decide) fl21 (fun _ h9 => h9) rfl hin rfl (by decide +kernel) rfl rfl (Nat.le_of_ble_eq_true rfl) dX6_init_32 (fun H locs hP hD hS => ?_)
  have hP : va_P D vwCl [(t, .inr (5, [.ref q_1, .ref q_2, .ref q_3, .ref q_4, .null, .null, .null, .int 0, .int 0, .int 0, .int 0, .int 0, .int 0, .int 0, .int 0])), oqI k q_1 8 (hsz), oqI k q_2 4 (hsz), oqI k q_3 8 (hsz), oqI k q_4 8 (hsz)] H := hP
  have hD : va_D A [(t, .inr (5, [.ref q_1, .ref q_2, .ref q_3, .ref q_4, .null, .null, .null, .int 0, .int 0, .int 0, .int 0, .int 0, .int 0, .int 0, .int 0])), oqI k q_1 8 (hsz), oqI k q_2 4 (hsz), oqI k q_3 8 (hsz), oqI k q_4 8 (hsz)] := hD
  refine lv_aload_n hx hb dX6_init_35 rfl (lv_at hl 0 rfl) ?_
  refine lv_bipush (v := 6) hx hb dX6_init_36 (by decide) ?_
  refine va_newa (atype := .int) (ty := .int) (N' := 6) (a0 := (6, .inl hsz)) hx hb acI rfl hK hP hD hS hA (fun _ => rfl) (by decide) (by decide) (by decide) (Nat.le_of_ble_eq_true rfl) (Nat.le_of_ble_eq_true rfl) dX6_init_38 (fun q_5 cA H hK2 hP hD hS => ?_)
  obtain rfl : cA = k 0 := hs_cAI hK2
  have hP : va_P D vwCl [(t, .inr (5, [.ref q_1, .ref q_2, .ref q_3, .ref q_4, .null, .null, .null, .int 0, .int 0, .int 0, .int 0, .int 0, .int 0, .int 0, .int 0])), oqI k q_1 8 (hsz), oqI k q_2 4 (hsz), oqI k q_3 8 (hsz), oqI k q_4 8 (hsz), oqI k q_5 6 (hsz)] H := hP
  have hD : va_D A [(t, .inr (5, [.ref q_1, .ref q_2, .ref q_3, .ref q_4, .null, .null, .null, .int 0, .int 0, .int 0, .int 0, .int 0, .int 0, .int 0, .int 0])), oqI k q_1 8 (hsz), oqI k q_2 4 (hsz), oqI k q_3 8 (hsz), oqI k q_4 8 (hsz), oqI k q_5 6 (hsz)] := hD
  refine W.widen (k := 5) (n := 34) (Nat.le_of_ble_eq_true rfl) (Nat.le_of_ble_eq_true rfl) ?_
  refine va_putF (D := D) (ci := 5) (v := .ref q_5) (ty := (.array .int)) (C := RX6) (T := TX6) (N := 15) hx hb hts hiX6 tyX6 tyX6_ok nmX6 hown hK hP hD hS 0 rfl rfl 4 (by decide) fl24 (fun _ h9 => h9) rfl hin rfl (by decide +kernel) rfl rfl (Nat.le_of_ble_eq_true rfl) dX6_init_40 (fun H locs hP hD hS => ?_)
  have hP : va_P D vwCl [(t, .inr (5, [.ref q_1, .ref q_2, .ref q_3, .ref q_4, .ref q_5, .null, .null, .int 0, .int 0, .int 0, .int 0, .int 0, .int 0, .int 0, .int 0])), oqI k q_1 8 (hsz), oqI k q_2 4 (hsz), oqI k q_3 8 (hsz), oqI k q_4 8 (hsz), oqI k q_5 6 (hsz)] H := hP
  have hD : va_D A [(t, .inr (5, [.ref q_1, .ref q_2, .ref q_3, .ref q_4, .ref q_5, .null, .null, .int 0, .int 0, .int 0, .int 0, .int 0, .int 0, .int 0, .int 0])), oqI k q_1 8 (hsz), oqI k q_2 4 (hsz), oqI k q_3 8 (hsz), oqI k q_4 8 (hsz), oqI k q_5 6 (hsz)] := hD
  refine lv_aload_n hx hb dX6_init_43 rfl (lv_at hl 0 rfl) ?_
  refine lv_bipush (v := 6) hx hb dX6_init_44 (by decide) ?_
  refine va_newa (atype := .int) (ty := .int) (N' := 6) (a0 := (6, .inl hsz)) hx hb acI rfl hK hP hD hS hA (fun _ => rfl) (by decide) (by decide) (by decide) (Nat.le_of_ble_eq_true rfl) (Nat.le_of_ble_eq_true rfl) dX6_init_46 (fun q_6 cA H hK2 hP hD hS => ?_)
  obtain rfl : cA = k 0 := hs_cAI hK2
  have hP : va_P D vwCl [(t, .inr (5, [.ref q_1, .ref q_2, .ref q_3, .ref q_4, .ref q_5, .null, .null, .int 0, .int 0, .int 0, .int 0, .int 0, .int 0, .int 0, .int 0])), oqI k q_1 8 (hsz), oqI k q_2 4 (hsz), oqI k q_3 8 (hsz), oqI k q_4 8 (hsz), oqI k q_5 6 (hsz), oqI k q_6 6 (hsz)] H := hP
  have hD : va_D A [(t, .inr (5, [.ref q_1, .ref q_2, .ref q_3, .ref q_4, .ref q_5, .null, .null, .int 0, .int 0, .int 0, .int 0, .int 0, .int 0, .int 0, .int 0])), oqI k q_1 8 (hsz), oqI k q_2 4 (hsz), oqI k q_3 8 (hsz), oqI k q_4 8 (hsz), oqI k q_5 6 (hsz), oqI k q_6 6 (hsz)] := hD
  refine W.widen (k := 6) (n := 40) (Nat.le_of_ble_eq_true rfl) (Nat.le_of_ble_eq_true rfl) ?_
  refine va_putF (D := D) (ci := 5) (v := .ref q_6) (ty := (.array .int)) (C := RX6) (T := TX6) (N := 15) hx hb hts hiX6 tyX6 tyX6_ok nmX6 hown hK hP hD hS 0 rfl rfl 5 (by decide) fl27 (fun _ h9 => h9) rfl hin rfl (by decide +kernel) rfl rfl (Nat.le_of_ble_eq_true rfl) dX6_init_48 (fun H locs hP hD hS => ?_)
  have hP : va_P D vwCl [(t, .inr (5, [.ref q_1, .ref q_2, .ref q_3, .ref q_4, .ref q_5, .ref q_6, .null, .int 0, .int 0, .int 0, .int 0, .int 0, .int 0, .int 0, .int 0])), oqI k q_1 8 (hsz), oqI k q_2 4 (hsz), oqI k q_3 8 (hsz), oqI k q_4 8 (hsz), oqI k q_5 6 (hsz), oqI k q_6 6 (hsz)] H := hP
  have hD : va_D A [(t, .inr (5, [.ref q_1, .ref q_2, .ref q_3, .ref q_4, .ref q_5, .ref q_6, .null, .int 0, .int 0, .int 0, .int 0, .int 0, .int 0, .int 0, .int 0])), oqI k q_1 8 (hsz), oqI k q_2 4 (hsz), oqI k q_3 8 (hsz), oqI k q_4 8 (hsz), oqI k q_5 6 (hsz), oqI k q_6 6 (hsz)] := hD
  refine lv_aload_n hx hb dX6_init_51 rfl (lv_at hl 0 rfl) ?_
  refine lv_bipush (v := 6) hx hb dX6_init_52 (by decide) ?_
  refine va_newa (atype := .int) (ty := .int) (N' := 6) (a0 := (6, .inl hsz)) hx hb acI rfl hK hP hD hS hA (fun _ => rfl) (by decide) (by decide) (by decide) (Nat.le_of_ble_eq_true rfl) (Nat.le_of_ble_eq_true rfl) dX6_init_54 (fun q_7 cA H hK2 hP hD hS => ?_)
  obtain rfl : cA = k 0 := hs_cAI hK2
  have hP : va_P D vwCl [(t, .inr (5, [.ref q_1, .ref q_2, .ref q_3, .ref q_4, .ref q_5, .ref q_6, .null, .int 0, .int 0, .int 0, .int 0, .int 0, .int 0, .int 0, .int 0])), oqI k q_1 8 (hsz), oqI k q_2 4 (hsz), oqI k q_3 8 (hsz), oqI k q_4 8 (hsz), oqI k q_5 6 (hsz), oqI k q_6 6 (hsz), oqI k q_7 6 (hsz)] H := hP
  have hD : va_D A [(t, .inr (5, [.ref q_1, .ref q_2, .ref q_3, .ref q_4, .ref q_5, .ref q_6, .null, .int 0, .int 0, .int 0, .int 0, .int 0, .int 0, .int 0, .int 0])), oqI k q_1 8 (hsz), oqI k q_2 4 (hsz), oqI k q_3 8 (hsz), oqI k q_4 8 (hsz), oqI k q_5 6 (hsz), oqI k q_6 6 (hsz), oqI k q_7 6 (hsz)] := hD
  refine W.widen (k := 7) (n := 46) (Nat.le_of_ble_eq_true rfl) (Nat.le_of_ble_eq_true rfl) ?_
  refine va_putF (D := D) (ci := 5) (v := .ref q_7) (ty := (.array .int)) (C := RX6) (T := TX6) (N := 15) hx hb hts hiX6 tyX6 tyX6_ok nmX6 hown hK hP hD hS 0 rfl rfl 6 (by decide) fl30 (fun _ h9 => h9) rfl hin rfl (by decide +kernel) rfl rfl (Nat.le_of_ble_eq_true rfl) dX6_init_56 (fun H locs hP hD hS => ?_)
  have hP : va_P D vwCl [oq5 t q_1 q_2 q_3 q_4 q_5 q_6 q_7 0 0 0 0 0 0 0 0, oqI k q_1 8 (hsz), oqI k q_2 4 (hsz), oqI k q_3 8 (hsz), oqI k q_4 8 (hsz), oqI k q_5 6 (hsz), oqI k q_6 6 (hsz), oqI k q_7 6 (hsz)] H := hP
  have hD : va_D A [oq5 t q_1 q_2 q_3 q_4 q_5 q_6 q_7 0 0 0 0 0 0 0 0, oqI k q_1 8 (hsz), oqI k q_2 4 (hsz), oqI k q_3 8 (hsz), oqI k q_4 8 (hsz), oqI k q_5 6 (hsz), oqI k q_6 6 (hsz), oqI k q_7 6 (hsz)] := hD
  refine lv_aload_n hx hb dX6_init_59 rfl (lv_at hl 0 rfl) ?_
  refine hs_cv (va_runV (As := []) (rest := []) ⟨hx, hb, hml, hown, hts⟩ (c_begin l D k _ t q_1 q_2 q_3 q_4 q_5 q_6 q_7 0 0 0 0 0 0 0 0 hsz) (cwV 0 hts gX6_init_X6_begin rfl rfl rfl (by decide +kernel) ⟨Nat.le_of_ble_eq_true rfl, Nat.le_of_ble_eq_true rfl⟩) (hs_preV hK hN (hs_subP (w := [oq5 t q_1 q_2 q_3 q_4 q_5 q_6 q_7 0 0 0 0 0 0 0 0, oqI k q_1 8 (hsz)]) hP [0, 1] rfl) (hD.sub (ws' := [oq5 t q_1 q_2 q_3 q_4 q_5 q_6 q_7 0 0 0 0 0 0 0 0, oqI k q_1 8 (hsz)]) [0, 1] (by decide) rfl) (ci := 5) (q0 := 0) rfl rfl) rfl rfl hl.1 rfl (lv_room (Nat.le_of_ble_eq_true rfl)) dX6_init_60 ⟨Nat.le_of_ble_eq_true rfl, Nat.le_of_ble_eq_true rfl⟩) hP hD hS hA [0, 1] [2, 3, 4, 5, 6, 7] [oqI k q_2 4 (hsz), oqI k q_3 8 (hsz), oqI k q_4 8 (hsz), oqI k q_5 6 (hsz), oqI k q_6 6 (hsz), oqI k q_7 6 (hsz)] rfl rfl (by decide) (by decide) [6, 7, 0, 1, 2, 3, 4, 5] (fun u_10 => [oq5 t q_1 q_2 q_3 q_4 q_5 q_6 q_7 2 0 0 0 0 2 0 0, oqI k q_1 8 (upd (upd hsz 0 1) 1 1), oqI k q_2 4 (hsz), oqI k q_3 8 (hsz), oqI k q_4 8 (hsz), oqI k q_5 6 (hsz), oqI k q_6 6 (hsz), oqI k q_7 6 (hsz)]) (fun _ => rfl) (by decide) (fun u_10 H locs hw_9 hP hD hS => ?_)
  have hP : va_P D vwCl [oq5 t q_1 q_2 q_3 q_4 q_5 q_6 q_7 2 0 0 0 0 2 0 0, oqI k q_1 8 (upd (upd hsz 0 1) 1 1), oqI k q_2 4 (hsz), oqI k q_3 8 (hsz), oqI k q_4 8 (hsz), oqI k q_5 6 (hsz), oqI k q_6 6 (hsz), oqI k q_7 6 (hsz)] H := hP
  have hD : va_D A [oq5 t q_1 q_2 q_3 q_4 q_5 q_6 q_7 2 0 0 0 0 2 0 0, oqI k q_1 8 (upd (upd hsz 0 1) 1 1), oqI k q_2 4 (hsz), oqI k q_3 8 (hsz), oqI k q_4 8 (hsz), oqI k q_5 6 (hsz), oqI k q_6 6 (hsz), oqI k q_7 6 (hsz)] := hD
  refine W.widen (k := 7) (n := 46) (Nat.le_of_ble_eq_true rfl) (Nat.le_of_ble_eq_true rfl) ?_
  exact hs_vret hx hb hr hlocks hK hP hD hS (fun i => ([q_1, q_2, q_3, q_4, q_5, q_6, q_7] : List Nat).getD i 0) [0, 1, 2, 3, 4, 5, 6, 7] rfl (by decide) dX6_init_63 (trivial)

set_option maxHeartbeats 4000000 in
set_option maxRecDepth 100000 in
theorem c_Tape_init (l : Launch) (D : va_G) (k : Nat → ClassId) (sz : Nat) (t : Nat)  : MV l yX4_init wsX4_init ({ frames := 1, cells := 1, slots := 160, locals := 12 }) D k [.ref t] [(t, .inr (3, [.null, .int 0, .int 0, .int 0, .int 0, .int 0]))] sz (fun (u : Nat → Nat) => True) (fun (u : Nat → Nat) => [oq3 t (u 0) 0 0 0 0 0, oqI k (u 0) 160 (hsz)]) := by
  refine Met.ofW (cc := cX4_init) (maxL := 1) (ret := none) (by decide) rfl ?_
  intro p e s m args below meth c s₁ B hml hv
  obtain ⟨rfl, hsz, hP, hK, hD0, hN⟩ := hv
  have hx := B.exec
  have hb := B.bytes
  have hr := B.returns
  have hlocks := B.notSynchronized
  have hts := atoms_spec (ws := wsX4_init) B.pre
  have hown : s.vm.findClass RX4 = some m.cls := findClass_of_methodNamed B.named
  have hin : meth.name = "<init>" := (name_of_methodNamed B.named B.method).1
  have hiX4 : ∀ w ∈ u_ws RX4 TX4 6, w ∈ wsX4_init := fun w9 hw9 => (List.mem_cons_of_mem _ (List.mem_append_right _ hw9))
  have fl9 := hts (.fieldLink RX4 9 "HalfScales$Tape" "bytes" "[I") (List.mem_of_getElem? (i := 5) rfl)
  have oi1 := hts (.methodLink RX4 3 objectInit) (List.mem_of_getElem? (i := 1) rfl)
  have oi2 := hts (.instanceMethod objectInit) (List.mem_of_getElem? (i := 2) rfl)
  have oi3 := hts (.code objectInit ⟨#[0xb1]⟩ 1 none) (List.mem_of_getElem? (i := 3) rfl)
  have acI := hts (.arrayClass .int) (List.mem_of_getElem? (i := 4) rfl)
  subst hsz
  have hD := hD0.self (sz := s.heap.size)
  generalize hAe : va_A [(t, .inr (3, [.null, .int 0, .int 0, .int 0, .int 0, .int 0]))] s.heap.size = A at hD ⊢
  have hA : ∀ q : Nat, s.heap.size ≤ q → A q := fun q h => by rw [← hAe]; exact Or.inr h
  have hS : va_S A s.heap s.heap [] := va_S.rf
  have hl := lv_entry ([.ref t]) (n := 1) (Nat.le_of_ble_eq_true rfl)
  rw [lg_entry_eq]
  generalize (lg_sl ([.ref t]) ++ List.replicate (1 - (lg_sl ([.ref t])).length) Slot.unset).toArray = ls at hl ⊢
  have hl : lv_has ls 1 [(0, .ref t)] := hl
  have hP : va_P D vwCl [(t, .inr (3, [.null, .int 0, .int 0, .int 0, .int 0, .int 0]))] s.heap := hP
  refine lv_aload_n hx hb dX4_init_0 rfl (lv_at hl 0 rfl) ?_
  refine W.objInit hx hb hown oi1 oi2 oi3 rfl (by rw [hml]; exact hl.1) rfl dX4_init_1 (Nat.le_of_ble_eq_true rfl) (Nat.le_of_ble_eq_true rfl) ?_
  refine W.eq (g2 := F0 m 4 ls []) rfl ?_
  refine lv_aload_n hx hb dX4_init_4 rfl (lv_at hl 0 rfl) ?_
  refine lv_sipush (v := 160) hx hb dX4_init_5 (by decide) ?_
  refine va_newa (atype := .int) (ty := .int) (N' := 160) (a0 := (160, .inl hsz)) hx hb acI rfl hK hP hD hS hA (fun _ => rfl) (by decide) (by decide) (by decide) (Nat.le_of_ble_eq_true rfl) (Nat.le_of_ble_eq_true rfl) dX4_init_8 (fun q_1 cA H hK2 hP hD hS => ?_)
  obtain rfl : cA = k 0 := hs_cAI hK2
  have hP : va_P D vwCl [(t, .inr (3, [.null, .int 0, .int 0, .int 0, .int 0, .int 0])), oqI k q_1 160 (hsz)] H := hP
  have hD : va_D A [(t, .inr (3, [.null, .int 0, .int 0, .int 0, .int 0, .int 0])), oqI k q_1 160 (hsz)] := hD
  refine W.widen (k := 1) (n := 160) (Nat.le_of_ble_eq_true rfl) (Nat.le_of_ble_eq_true rfl) ?_
  refine va_putF (D := D) (ci := 3) (v := .ref q_1) (ty := (.array .int)) (C := RX4) (T := TX4) (N := 6) hx hb hts hiX4 tyX4 tyX4_ok nmX4 hown hK hP hD hS 0 rfl rfl 0 (by decide) fl9 (fun _ h9 => h9) rfl hin rfl (by decide +kernel) rfl rfl (Nat.le_of_ble_eq_true rfl) dX4_init_10 (fun H locs hP hD hS => ?_)
  have hP : va_P D vwCl [oq3 t q_1 0 0 0 0 0, oqI k q_1 160 (hsz)] H := hP
  have hD : va_D A [oq3 t q_1 0 0 0 0 0, oqI k q_1 160 (hsz)] := hD
  refine W.widen (k := 1) (n := 160) (Nat.le_of_ble_eq_true rfl) (Nat.le_of_ble_eq_true rfl) ?_
  exact hs_vret hx hb hr hlocks hK hP hD hS (fun i => ([q_1] : List Nat).getD i 0) [0, 1] rfl (by decide) dX4_init_13 (trivial)

set_option maxHeartbeats 4000000 in
set_option maxRecDepth 100000 in
theorem c_Ranks_init (l : Launch) (D : va_G) (k : Nat → ClassId) (sz : Nat) (t : Nat)  : MV l yX2_init wsX2_init ({ frames := 1, cells := 2, slots := 37, locals := 12 }) D k [.ref t] [(t, .inr (1, [.null, .null, .int 0]))] sz (fun (u : Nat → Nat) => True) (fun (u : Nat → Nat) => [oq1 t (u 0) (u 1) 0, oqI k (u 0) 5 (hsz), oqI k (u 1) 32 (hsz)]) := by
  refine Met.ofW (cc := cX2_init) (maxL := 1) (ret := none) (by decide) rfl ?_
  intro p e s m args below meth c s₁ B hml hv
  obtain ⟨rfl, hsz, hP, hK, hD0, hN⟩ := hv
  have hx := B.exec
  have hb := B.bytes
  have hr := B.returns
  have hlocks := B.notSynchronized
  have hts := atoms_spec (ws := wsX2_init) B.pre
  have hown : s.vm.findClass RX2 = some m.cls := findClass_of_methodNamed B.named
  have hin : meth.name = "<init>" := (name_of_methodNamed B.named B.method).1
  have hiX2 : ∀ w ∈ u_ws RX2 TX2 3, w ∈ wsX2_init := fun w9 hw9 => (List.mem_cons_of_mem _ (List.mem_append_right _ hw9))
  have fl9 := hts (.fieldLink RX2 9 "HalfScales$Ranks" "ahead" "[I") (List.mem_of_getElem? (i := 5) rfl)
  have fl15 := hts (.fieldLink RX2 15 "HalfScales$Ranks" "ways" "[I") (List.mem_of_getElem? (i := 6) rfl)
  have oi1 := hts (.methodLink RX2 3 objectInit) (List.mem_of_getElem? (i := 1) rfl)
  have oi2 := hts (.instanceMethod objectInit) (List.mem_of_getElem? (i := 2) rfl)
  have oi3 := hts (.code objectInit ⟨#[0xb1]⟩ 1 none) (List.mem_of_getElem? (i := 3) rfl)
  have acI := hts (.arrayClass .int) (List.mem_of_getElem? (i := 4) rfl)
  subst hsz
  have hD := hD0.self (sz := s.heap.size)
  generalize hAe : va_A [(t, .inr (1, [.null, .null, .int 0]))] s.heap.size = A at hD ⊢
  have hA : ∀ q : Nat, s.heap.size ≤ q → A q := fun q h => by rw [← hAe]; exact Or.inr h
  have hS : va_S A s.heap s.heap [] := va_S.rf
  have hl := lv_entry ([.ref t]) (n := 1) (Nat.le_of_ble_eq_true rfl)
  rw [lg_entry_eq]
  generalize (lg_sl ([.ref t]) ++ List.replicate (1 - (lg_sl ([.ref t])).length) Slot.unset).toArray = ls at hl ⊢
  have hl : lv_has ls 1 [(0, .ref t)] := hl
  have hP : va_P D vwCl [(t, .inr (1, [.null, .null, .int 0]))] s.heap := hP
  refine lv_aload_n hx hb dX2_init_0 rfl (lv_at hl 0 rfl) ?_
  refine W.objInit hx hb hown oi1 oi2 oi3 rfl (by rw [hml]; exact hl.1) rfl dX2_init_1 (Nat.le_of_ble_eq_true rfl) (Nat.le_of_ble_eq_true rfl) ?_
  refine W.eq (g2 := F0 m 4 ls []) rfl ?_
  refine lv_aload_n hx hb dX2_init_4 rfl (lv_at hl 0 rfl) ?_
  refine lv_iconst (v := 5) hx hb dX2_init_5 (by decide) ?_
  refine va_newa (atype := .int) (ty := .int) (N' := 5) (a0 := (5, .inl hsz)) hx hb acI rfl hK hP hD hS hA (fun _ => rfl) (by decide) (by decide) (by decide) (Nat.le_of_ble_eq_true rfl) (Nat.le_of_ble_eq_true rfl) dX2_init_6 (fun q_1 cA H hK2 hP hD hS => ?_)
  obtain rfl : cA = k 0 := hs_cAI hK2
  have hP : va_P D vwCl [(t, .inr (1, [.null, .null, .int 0])), oqI k q_1 5 (hsz)] H := hP
  have hD : va_D A [(t, .inr (1, [.null, .null, .int 0])), oqI k q_1 5 (hsz)] := hD
  refine W.widen (k := 1) (n := 5) (Nat.le_of_ble_eq_true rfl) (Nat.le_of_ble_eq_true rfl) ?_
  refine va_putF (D := D) (ci := 1) (v := .ref q_1) (ty := (.array .int)) (C := RX2) (T := TX2) (N := 3) hx hb hts hiX2 tyX2 tyX2_ok nmX2 hown hK hP hD hS 0 rfl rfl 0 (by decide) fl9 (fun _ h9 => h9) rfl hin rfl (by decide +kernel) rfl rfl (Nat.le_of_ble_eq_true rfl) dX2_init_8 (fun H locs hP hD hS => ?_)
  have hP : va_P D vwCl [(t, .inr (1, [.ref q_1, .null, .int 0])), oqI k q_1 5 (hsz)] H := hP
  have hD : va_D A [(t, .inr (1, [.ref q_1, .null, .int 0])), oqI k q_1 5 (hsz)] := hD
  refine lv_aload_n hx hb dX2_init_11 rfl (lv_at hl 0 rfl) ?_
  refine lv_bipush (v := 32) hx hb dX2_init_12 (by decide) ?_
  refine va_newa (atype := .int) (ty := .int) (N' := 32) (a0 := (32, .inl hsz)) hx hb acI rfl hK hP hD hS hA (fun _ => rfl) (by decide) (by decide) (by decide) (Nat.le_of_ble_eq_true rfl) (Nat.le_of_ble_eq_true rfl) dX2_init_14 (fun q_2 cA H hK2 hP hD hS => ?_)
  obtain rfl : cA = k 0 := hs_cAI hK2
  have hP : va_P D vwCl [(t, .inr (1, [.ref q_1, .null, .int 0])), oqI k q_1 5 (hsz), oqI k q_2 32 (hsz)] H := hP
  have hD : va_D A [(t, .inr (1, [.ref q_1, .null, .int 0])), oqI k q_1 5 (hsz), oqI k q_2 32 (hsz)] := hD
  refine W.widen (k := 2) (n := 37) (Nat.le_of_ble_eq_true rfl) (Nat.le_of_ble_eq_true rfl) ?_
  refine va_putF (D := D) (ci := 1) (v := .ref q_2) (ty := (.array .int)) (C := RX2) (T := TX2) (N := 3) hx hb hts hiX2 tyX2 tyX2_ok nmX2 hown hK hP hD hS 0 rfl rfl 1 (by decide) fl15 (fun _ h9 => h9) rfl hin rfl (by decide +kernel) rfl rfl (Nat.le_of_ble_eq_true rfl) dX2_init_16 (fun H locs hP hD hS => ?_)
  have hP : va_P D vwCl [oq1 t q_1 q_2 0, oqI k q_1 5 (hsz), oqI k q_2 32 (hsz)] H := hP
  have hD : va_D A [oq1 t q_1 q_2 0, oqI k q_1 5 (hsz), oqI k q_2 32 (hsz)] := hD
  refine W.widen (k := 2) (n := 37) (Nat.le_of_ble_eq_true rfl) (Nat.le_of_ble_eq_true rfl) ?_
  exact hs_vret hx hb hr hlocks hK hP hD hS (fun i => ([q_1, q_2] : List Nat).getD i 0) [0, 1, 2] rfl (by decide) dX2_init_19 (trivial)

set_option maxHeartbeats 4000000 in
set_option maxRecDepth 100000 in
theorem c_Court_init (l : Launch) (D : va_G) (k : Nat → ClassId) (sz : Nat) (t : Nat)  : MV l yX0_init wsX0_init ({ frames := 1, cells := 1, slots := 5, locals := 12 }) D k [.ref t] [(t, .inr (0, [.null]))] sz (fun (u : Nat → Nat) => True) (fun (u : Nat → Nat) => [oq0 t (u 0), oqL k (u 0) 5 (hszl)]) := by
  refine Met.ofW (cc := cX0_init) (maxL := 1) (ret := none) (by decide) rfl ?_
  intro p e s m args below meth c s₁ B hml hv
  obtain ⟨rfl, hsz, hP, hK, hD0, hN⟩ := hv
  have hx := B.exec
  have hb := B.bytes
  have hr := B.returns
  have hlocks := B.notSynchronized
  have hts := atoms_spec (ws := wsX0_init) B.pre
  have hown : s.vm.findClass RX0 = some m.cls := findClass_of_methodNamed B.named
  have hin : meth.name = "<init>" := (name_of_methodNamed B.named B.method).1
  have hiX0 : ∀ w ∈ u_ws RX0 TX0 1, w ∈ wsX0_init := fun w9 hw9 => (List.mem_cons_of_mem _ (List.mem_append_right _ hw9))
  have fl9 := hts (.fieldLink RX0 9 "HalfScales$Court" "tell" "[J") (List.mem_of_getElem? (i := 5) rfl)
  have oi1 := hts (.methodLink RX0 3 objectInit) (List.mem_of_getElem? (i := 1) rfl)
  have oi2 := hts (.instanceMethod objectInit) (List.mem_of_getElem? (i := 2) rfl)
  have oi3 := hts (.code objectInit ⟨#[0xb1]⟩ 1 none) (List.mem_of_getElem? (i := 3) rfl)
  have acJ := hts (.arrayClass .long) (List.mem_of_getElem? (i := 4) rfl)
  subst hsz
  have hD := hD0.self (sz := s.heap.size)
  generalize hAe : va_A [(t, .inr (0, [.null]))] s.heap.size = A at hD ⊢
  have hA : ∀ q : Nat, s.heap.size ≤ q → A q := fun q h => by rw [← hAe]; exact Or.inr h
  have hS : va_S A s.heap s.heap [] := va_S.rf
  have hl := lv_entry ([.ref t]) (n := 1) (Nat.le_of_ble_eq_true rfl)
  rw [lg_entry_eq]
  generalize (lg_sl ([.ref t]) ++ List.replicate (1 - (lg_sl ([.ref t])).length) Slot.unset).toArray = ls at hl ⊢
  have hl : lv_has ls 1 [(0, .ref t)] := hl
  have hP : va_P D vwCl [(t, .inr (0, [.null]))] s.heap := hP
  refine lv_aload_n hx hb dX0_init_0 rfl (lv_at hl 0 rfl) ?_
  refine W.objInit hx hb hown oi1 oi2 oi3 rfl (by rw [hml]; exact hl.1) rfl dX0_init_1 (Nat.le_of_ble_eq_true rfl) (Nat.le_of_ble_eq_true rfl) ?_
  refine W.eq (g2 := F0 m 4 ls []) rfl ?_
  refine lv_aload_n hx hb dX0_init_4 rfl (lv_at hl 0 rfl) ?_
  refine lv_iconst (v := 5) hx hb dX0_init_5 (by decide) ?_
  refine va_newa (atype := .long) (ty := .long) (N' := 5) (a0 := (5, .inr (.inl hszl))) hx hb acJ rfl hK hP hD hS hA (fun _ => rfl) (by decide) (by decide) (by decide) (Nat.le_of_ble_eq_true rfl) (Nat.le_of_ble_eq_true rfl) dX0_init_6 (fun q_1 cA H hK2 hP hD hS => ?_)
  obtain rfl : cA = k 1 := hs_cAJ hK2
  have hP : va_P D vwCl [(t, .inr (0, [.null])), oqL k q_1 5 (hszl)] H := hP
  have hD : va_D A [(t, .inr (0, [.null])), oqL k q_1 5 (hszl)] := hD
  refine W.widen (k := 1) (n := 5) (Nat.le_of_ble_eq_true rfl) (Nat.le_of_ble_eq_true rfl) ?_
  refine va_putF (D := D) (ci := 0) (v := .ref q_1) (ty := (.array .long)) (C := RX0) (T := TX0) (N := 1) hx hb hts hiX0 tyX0 tyX0_ok nmX0 hown hK hP hD hS 0 rfl rfl 0 (by decide) fl9 (fun _ h9 => h9) rfl hin rfl (by decide +kernel) rfl rfl (Nat.le_of_ble_eq_true rfl) dX0_init_8 (fun H locs hP hD hS => ?_)
  have hP : va_P D vwCl [oq0 t q_1, oqL k q_1 5 (hszl)] H := hP
  have hD : va_D A [oq0 t q_1, oqL k q_1 5 (hszl)] := hD
  refine W.widen (k := 1) (n := 5) (Nat.le_of_ble_eq_true rfl) (Nat.le_of_ble_eq_true rfl) ?_
  exact hs_vret hx hb hr hlocks hK hP hD hS (fun i => ([q_1] : List Nat).getD i 0) [0, 1] rfl (by decide) dX0_init_11 (trivial)

set_option maxHeartbeats 4000000 in
set_option maxRecDepth 100000 in
theorem c_Sheet_init (l : Launch) (D : va_G) (k : Nat → ClassId) (sz : Nat) (t : Nat)  : MV l yX3_init wsX3_init ({ frames := 1, cells := 1, slots := 40, locals := 12 }) D k [.ref t] [(t, .inr (2, [.null, .int 0, .int 0]))] sz (fun (u : Nat → Nat) => True) (fun (u : Nat → Nat) => [oq2 t (u 0) (-1) 0, oqI k (u 0) 40 (hsz)]) := by
  refine Met.ofW (cc := cX3_init) (maxL := 1) (ret := none) (by decide) rfl ?_
  intro p e s m args below meth c s₁ B hml hv
  obtain ⟨rfl, hsz, hP, hK, hD0, hN⟩ := hv
  have hx := B.exec
  have hb := B.bytes
  have hr := B.returns
  have hlocks := B.notSynchronized
  have hts := atoms_spec (ws := wsX3_init) B.pre
  have hown : s.vm.findClass RX3 = some m.cls := findClass_of_methodNamed B.named
  have hin : meth.name = "<init>" := (name_of_methodNamed B.named B.method).1
  have hiX3 : ∀ w ∈ u_ws RX3 TX3 3, w ∈ wsX3_init := fun w9 hw9 => (List.mem_cons_of_mem _ (List.mem_append_right _ hw9))
  have fl9 := hts (.fieldLink RX3 9 "HalfScales$Sheet" "row" "[I") (List.mem_of_getElem? (i := 5) rfl)
  have fl13 := hts (.fieldLink RX3 13 "HalfScales$Sheet" "laneOf" "I") (List.mem_of_getElem? (i := 6) rfl)
  have oi1 := hts (.methodLink RX3 1 objectInit) (List.mem_of_getElem? (i := 1) rfl)
  have oi2 := hts (.instanceMethod objectInit) (List.mem_of_getElem? (i := 2) rfl)
  have oi3 := hts (.code objectInit ⟨#[0xb1]⟩ 1 none) (List.mem_of_getElem? (i := 3) rfl)
  have acI := hts (.arrayClass .int) (List.mem_of_getElem? (i := 4) rfl)
  subst hsz
  have hD := hD0.self (sz := s.heap.size)
  generalize hAe : va_A [(t, .inr (2, [.null, .int 0, .int 0]))] s.heap.size = A at hD ⊢
  have hA : ∀ q : Nat, s.heap.size ≤ q → A q := fun q h => by rw [← hAe]; exact Or.inr h
  have hS : va_S A s.heap s.heap [] := va_S.rf
  have hl := lv_entry ([.ref t]) (n := 1) (Nat.le_of_ble_eq_true rfl)
  rw [lg_entry_eq]
  generalize (lg_sl ([.ref t]) ++ List.replicate (1 - (lg_sl ([.ref t])).length) Slot.unset).toArray = ls at hl ⊢
  have hl : lv_has ls 1 [(0, .ref t)] := hl
  have hP : va_P D vwCl [(t, .inr (2, [.null, .int 0, .int 0]))] s.heap := hP
  refine lv_aload_n hx hb dX3_init_0 rfl (lv_at hl 0 rfl) ?_
  refine W.objInit hx hb hown oi1 oi2 oi3 rfl (by rw [hml]; exact hl.1) rfl dX3_init_1 (Nat.le_of_ble_eq_true rfl) (Nat.le_of_ble_eq_true rfl) ?_
  refine W.eq (g2 := F0 m 4 ls []) rfl ?_
  refine lv_aload_n hx hb dX3_init_4 rfl (lv_at hl 0 rfl) ?_
  refine lv_bipush (v := 40) hx hb dX3_init_5 (by decide) ?_
  refine va_newa (atype := .int) (ty := .int) (N' := 40) (a0 := (40, .inl hsz)) hx hb acI rfl hK hP hD hS hA (fun _ => rfl) (by decide) (by decide) (by decide) (Nat.le_of_ble_eq_true rfl) (Nat.le_of_ble_eq_true rfl) dX3_init_7 (fun q_1 cA H hK2 hP hD hS => ?_)
  obtain rfl : cA = k 0 := hs_cAI hK2
  have hP : va_P D vwCl [(t, .inr (2, [.null, .int 0, .int 0])), oqI k q_1 40 (hsz)] H := hP
  have hD : va_D A [(t, .inr (2, [.null, .int 0, .int 0])), oqI k q_1 40 (hsz)] := hD
  refine W.widen (k := 1) (n := 40) (Nat.le_of_ble_eq_true rfl) (Nat.le_of_ble_eq_true rfl) ?_
  refine va_putF (D := D) (ci := 2) (v := .ref q_1) (ty := (.array .int)) (C := RX3) (T := TX3) (N := 3) hx hb hts hiX3 tyX3 tyX3_ok nmX3 hown hK hP hD hS 0 rfl rfl 0 (by decide) fl9 (fun _ h9 => h9) rfl hin rfl (by decide +kernel) rfl rfl (Nat.le_of_ble_eq_true rfl) dX3_init_9 (fun H locs hP hD hS => ?_)
  have hP : va_P D vwCl [oq2 t q_1 0 0, oqI k q_1 40 (hsz)] H := hP
  have hD : va_D A [oq2 t q_1 0 0, oqI k q_1 40 (hsz)] := hD
  refine lv_aload_n hx hb dX3_init_12 rfl (lv_at hl 0 rfl) ?_
  refine lv_iconst (v := (-1)) hx hb dX3_init_13 (by decide) ?_
  refine va_put (D := D) (ci := 2) (v := .int (-1)) (ty := .int) (C := RX3) (T := TX3) (N := 3) hx hb hts hiX3 tyX3 tyX3_ok nmX3 hown hK hP hD hS 0 rfl rfl 1 (by decide) fl13 (fun _ h9 => h9) rfl (by decide +kernel) rfl rfl (Nat.le_of_ble_eq_true rfl) dX3_init_14 (fun H locs hP hD hS => ?_)
  have hP : va_P D vwCl [oq2 t q_1 (-1) 0, oqI k q_1 40 (hsz)] H := hP
  have hD : va_D A [oq2 t q_1 (-1) 0, oqI k q_1 40 (hsz)] := hD
  refine W.widen (k := 1) (n := 40) (Nat.le_of_ble_eq_true rfl) (Nat.le_of_ble_eq_true rfl) ?_
  exact hs_vret hx hb hr hlocks hK hP hD hS (fun i => ([q_1] : List Nat).getD i 0) [0, 1] rfl (by decide) dX3_init_17 (trivial)

set_option maxHeartbeats 4000000 in
set_option maxRecDepth 100000 in
theorem c_Teller_init (l : Launch) (D : va_G) (k : Nat → ClassId) (sz : Nat) (t : Nat)  : MV l yX5_init wsX5_init ({ frames := 2, cells := 10, slots := 227, locals := 40 }) D k [.ref t] [(t, .inr (4, [.null, .null, .int 0, .int 0, .int 0]))] sz (fun (u : Nat → Nat) => True) (fun (u : Nat → Nat) => [oq4 t (u 0) (u 2) 0 0 0, oq3 (u 0) (u 1) 0 0 0 0 0, oqI k (u 1) 160 (hsz), oq5 (u 2) (u 3) (u 4) (u 5) (u 6) (u 7) (u 8) (u 9) 2 0 0 0 0 2 0 0, oqI k (u 3) 8 (hsw), oqI k (u 4) 4 (hsz), oqI k (u 5) 8 (hsz), oqI k (u 6) 8 (hsz), oqI k (u 7) 6 (hsz), oqI k (u 8) 6 (hsz), oqI k (u 9) 6 (hsz)]) := by
  refine Met.ofW (cc := cX5_init) (maxL := 1) (ret := none) (by decide) rfl ?_
  intro p e s m args below meth c s₁ B hml hv
  obtain ⟨rfl, hsz, hP, hK, hD0, hN⟩ := hv
  have hx := B.exec
  have hb := B.bytes
  have hr := B.returns
  have hlocks := B.notSynchronized
  have hts := atoms_spec (ws := wsX5_init) B.pre
  have hown : s.vm.findClass RX5 = some m.cls := findClass_of_methodNamed B.named
  have hin : meth.name = "<init>" := (name_of_methodNamed B.named B.method).1
  have hiX4 : ∀ w ∈ u_ws RX4 TX4 6, w ∈ wsX5_init := fun w9 hw9 => (List.mem_cons_of_mem _ (List.mem_append_left _ (List.mem_append_left _ (List.mem_append_right _ hw9))))
  have hiX5 : ∀ w ∈ u_ws RX5 TX5 5, w ∈ wsX5_init := fun w9 hw9 => (List.mem_cons_of_mem _ (List.mem_append_left _ (List.mem_append_right _ hw9)))
  have hiX6 : ∀ w ∈ u_ws RX6 TX6 15, w ∈ wsX5_init := fun w9 hw9 => (List.mem_cons_of_mem _ (List.mem_append_right _ hw9))
  have fl12 := hts (.fieldLink RX5 12 "HalfScales$Teller" "tape" "LHalfScales$Tape;") (List.mem_of_getElem? (i := 7) rfl)
  have fl21 := hts (.fieldLink RX5 21 "HalfScales$Teller" "draft" "LHalfScales$Thing;") (List.mem_of_getElem? (i := 11) rfl)
  have oi1 := hts (.methodLink RX5 3 objectInit) (List.mem_of_getElem? (i := 1) rfl)
  have oi2 := hts (.instanceMethod objectInit) (List.mem_of_getElem? (i := 2) rfl)
  have oi3 := hts (.code objectInit ⟨#[0xb1]⟩ 1 none) (List.mem_of_getElem? (i := 3) rfl)
  have cl9 := hts (.classLink RX5 9 RX4) (List.mem_of_getElem? (i := 4) rfl)
  have inX4 := hts (.instantiable RX4 6) (List.mem_of_getElem? (i := 5) rfl)
  have iniX4 := hts (.initialized RX4) (List.mem_of_getElem? (i := 6) rfl)
  have im_X4_init := hts (.instanceMethod yX4_init) (List.mem_of_getElem? (i := 12) rfl)
  have cl18 := hts (.classLink RX5 18 RX6) (List.mem_of_getElem? (i := 8) rfl)
  have inX6 := hts (.instantiable RX6 15) (List.mem_of_getElem? (i := 9) rfl)
  have iniX6 := hts (.initialized RX6) (List.mem_of_getElem? (i := 10) rfl)
  have ml20 := hts (.methodLink RX5 20 yX6_init) (List.mem_of_getElem? (i := 17) rfl)
  have im_X6_init := hts (.instanceMethod yX6_init) (List.mem_of_getElem? (i := 18) rfl)
  subst hsz
  have hD := hD0.self (sz := s.heap.size)
  generalize hAe : va_A [(t, .inr (4, [.null, .null, .int 0, .int 0, .int 0]))] s.heap.size = A at hD ⊢
  have hA : ∀ q : Nat, s.heap.size ≤ q → A q := fun q h => by rw [← hAe]; exact Or.inr h
  have hS : va_S A s.heap s.heap [] := va_S.rf
  have hl := lv_entry ([.ref t]) (n := 1) (Nat.le_of_ble_eq_true rfl)
  rw [lg_entry_eq]
  generalize (lg_sl ([.ref t]) ++ List.replicate (1 - (lg_sl ([.ref t])).length) Slot.unset).toArray = ls at hl ⊢
  have hl : lv_has ls 1 [(0, .ref t)] := hl
  have hP : va_P D vwCl [(t, .inr (4, [.null, .null, .int 0, .int 0, .int 0]))] s.heap := hP
  refine lv_aload_n hx hb dX5_init_0 rfl (lv_at hl 0 rfl) ?_
  refine W.objInit hx hb hown oi1 oi2 oi3 rfl (by rw [hml]; exact hl.1) rfl dX5_init_1 (Nat.le_of_ble_eq_true rfl) (Nat.le_of_ble_eq_true rfl) ?_
  refine W.eq (g2 := F0 m 4 ls []) rfl ?_
  refine lv_aload_n hx hb dX5_init_4 rfl (lv_at hl 0 rfl) ?_
  refine va_new (ci := 3) (fs := [.null, .int 0, .int 0, .int 0, .int 0, .int 0]) (C := RX4) (T := TX4) (N := 6) hx hb hts hiX4 tyX4 tyX4_ok hown cl9 inX4 iniX4 hK hP hD hS hA rfl nfX4 (Nat.le_of_ble_eq_true rfl) (Nat.le_of_ble_eq_true rfl) dX5_init_5 (fun q_1 H hP hD hS => ?_)
  have hP : va_P D vwCl [(t, .inr (4, [.null, .null, .int 0, .int 0, .int 0])), (q_1, .inr (3, [.null, .int 0, .int 0, .int 0, .int 0, .int 0]))] H := hP
  have hD : va_D A [(t, .inr (4, [.null, .null, .int 0, .int 0, .int 0])), (q_1, .inr (3, [.null, .int 0, .int 0, .int 0, .int 0, .int 0]))] := hD
  refine W.widen (k := 1) (n := 6) (Nat.le_of_ble_eq_true rfl) (Nat.le_of_ble_eq_true rfl) ?_
  refine lv_dup hx hb dX5_init_8 rfl ?_
  refine hs_cv (va_runIN (As := []) (rest := [.ref q_1, .ref t]) ⟨hx, hb, hml, hown, hts⟩ (c_Tape_init l D k _ q_1) ⟨(va_cnB 0 hts gX5_init_X4_init_n11 rfl rfl rfl hN.2.1 iniX4 (by decide +kernel) ⟨Nat.le_of_ble_eq_true rfl, Nat.le_of_ble_eq_true rfl⟩), rfl, im_X4_init⟩ (hs_preS hK hN (hs_subP (w := [(q_1, .inr (3, [.null, .int 0, .int 0, .int 0, .int 0, .int 0]))]) hP [1] rfl) (hD.sub (ws' := [(q_1, .inr (3, [.null, .int 0, .int 0, .int 0, .int 0, .int 0]))]) [1] (by decide) rfl)) rfl rfl hl.1 rfl (lv_room (Nat.le_of_ble_eq_true rfl)) dX5_init_9 ⟨Nat.le_of_ble_eq_true rfl, Nat.le_of_ble_eq_true rfl⟩) hP hD hS hA [1] [0] [(t, .inr (4, [.null, .null, .int 0, .int 0, .int 0]))] rfl rfl (by decide) (by decide) [0, 1, 2] (fun u_4 => [(t, .inr (4, [.null, .null, .int 0, .int 0, .int 0])), oq3 q_1 (u_4 0) 0 0 0 0 0, oqI k (u_4 0) 160 (hsz)]) (fun _ => rfl) (by decide) (fun u_4 H locs hw_3 hP hD hS => ?_)
  have hP : va_P D vwCl [(t, .inr (4, [.null, .null, .int 0, .int 0, .int 0])), oq3 q_1 (u_4 0) 0 0 0 0 0, oqI k (u_4 0) 160 (hsz)] H := hP
  have hD : va_D A [(t, .inr (4, [.null, .null, .int 0, .int 0, .int 0])), oq3 q_1 (u_4 0) 0 0 0 0 0, oqI k (u_4 0) 160 (hsz)] := hD
  refine W.widen (k := 2) (n := 166) (Nat.le_of_ble_eq_true rfl) (Nat.le_of_ble_eq_true rfl) ?_
  refine va_putF (D := D) (ci := 4) (v := .ref q_1) (ty := (.object "HalfScales$Tape")) (C := RX5) (T := TX5) (N := 5) hx hb hts hiX5 tyX5 tyX5_ok nmX5 hown hK hP hD hS 0 rfl rfl 0 (by decide) fl12 (fun _ h9 => h9) rfl hin rfl (by decide +kernel) rfl rfl (Nat.le_of_ble_eq_true rfl) dX5_init_12 (fun H locs hP hD hS => ?_)
  have hP : va_P D vwCl [(t, .inr (4, [.ref q_1, .null, .int 0, .int 0, .int 0])), oq3 q_1 (u_4 0) 0 0 0 0 0, oqI k (u_4 0) 160 (hsz)] H := hP
  have hD : va_D A [(t, .inr (4, [.ref q_1, .null, .int 0, .int 0, .int 0])), oq3 q_1 (u_4 0) 0 0 0 0 0, oqI k (u_4 0) 160 (hsz)] := hD
  refine lv_aload_n hx hb dX5_init_15 rfl (lv_at hl 0 rfl) ?_
  refine va_new (ci := 5) (fs := [.null, .null, .null, .null, .null, .null, .null, .int 0, .int 0, .int 0, .int 0, .int 0, .int 0, .int 0, .int 0]) (C := RX6) (T := TX6) (N := 15) hx hb hts hiX6 tyX6 tyX6_ok hown cl18 inX6 iniX6 hK hP hD hS hA rfl nfX6 (Nat.le_of_ble_eq_true rfl) (Nat.le_of_ble_eq_true rfl) dX5_init_16 (fun q_5 H hP hD hS => ?_)
  have hP : va_P D vwCl [(t, .inr (4, [.ref q_1, .null, .int 0, .int 0, .int 0])), oq3 q_1 (u_4 0) 0 0 0 0 0, oqI k (u_4 0) 160 (hsz), (q_5, .inr (5, [.null, .null, .null, .null, .null, .null, .null, .int 0, .int 0, .int 0, .int 0, .int 0, .int 0, .int 0, .int 0]))] H := hP
  have hD : va_D A [(t, .inr (4, [.ref q_1, .null, .int 0, .int 0, .int 0])), oq3 q_1 (u_4 0) 0 0 0 0 0, oqI k (u_4 0) 160 (hsz), (q_5, .inr (5, [.null, .null, .null, .null, .null, .null, .null, .int 0, .int 0, .int 0, .int 0, .int 0, .int 0, .int 0, .int 0]))] := hD
  refine W.widen (k := 3) (n := 181) (Nat.le_of_ble_eq_true rfl) (Nat.le_of_ble_eq_true rfl) ?_
  refine lv_dup hx hb dX5_init_19 rfl ?_
  refine hs_cv (va_runI (As := []) (rest := [.ref q_5, .ref t]) ⟨hx, hb, hml, hown, hts⟩ (c_Thing_init l D k _ q_5) (cwI 0 hts gX5_init_X6_init rfl rfl rfl iniX6 ml20 im_X6_init rfl (by decide +kernel) ⟨Nat.le_of_ble_eq_true rfl, Nat.le_of_ble_eq_true rfl⟩) (hs_preS hK hN (hs_subP (w := [(q_5, .inr (5, [.null, .null, .null, .null, .null, .null, .null, .int 0, .int 0, .int 0, .int 0, .int 0, .int 0, .int 0, .int 0]))]) hP [3] rfl) (hD.sub (ws' := [(q_5, .inr (5, [.null, .null, .null, .null, .null, .null, .null, .int 0, .int 0, .int 0, .int 0, .int 0, .int 0, .int 0, .int 0]))]) [3] (by decide) rfl)) rfl rfl hl.1 rfl (lv_room (Nat.le_of_ble_eq_true rfl)) dX5_init_20 ⟨Nat.le_of_ble_eq_true rfl, Nat.le_of_ble_eq_true rfl⟩) hP hD hS hA [3] [0, 1, 2] [(t, .inr (4, [.ref q_1, .null, .int 0, .int 0, .int 0])), oq3 q_1 (u_4 0) 0 0 0 0 0, oqI k (u_4 0) 160 (hsz)] rfl rfl (by decide) (by decide) [0, 1, 2, 3, 4, 5, 6, 7, 8, 9, 10] (fun u_8 => [(t, .inr (4, [.ref q_1, .null, .int 0, .int 0, .int 0])), oq3 q_1 (u_4 0) 0 0 0 0 0, oqI k (u_4 0) 160 (hsz), oq5 q_5 (u_8 0) (u_8 1) (u_8 2) (u_8 3) (u_8 4) (u_8 5) (u_8 6) 2 0 0 0 0 2 0 0, oqI k (u_8 0) 8 (hsw), oqI k (u_8 1) 4 (hsz), oqI k (u_8 2) 8 (hsz), oqI k (u_8 3) 8 (hsz), oqI k (u_8 4) 6 (hsz), oqI k (u_8 5) 6 (hsz), oqI k (u_8 6) 6 (hsz)]) (fun _ => rfl) (by decide) (fun u_8 H locs hw_7 hP hD hS => ?_)
  have hP : va_P D vwCl [(t, .inr (4, [.ref q_1, .null, .int 0, .int 0, .int 0])), oq3 q_1 (u_4 0) 0 0 0 0 0, oqI k (u_4 0) 160 (hsz), oq5 q_5 (u_8 0) (u_8 1) (u_8 2) (u_8 3) (u_8 4) (u_8 5) (u_8 6) 2 0 0 0 0 2 0 0, oqI k (u_8 0) 8 (hsw), oqI k (u_8 1) 4 (hsz), oqI k (u_8 2) 8 (hsz), oqI k (u_8 3) 8 (hsz), oqI k (u_8 4) 6 (hsz), oqI k (u_8 5) 6 (hsz), oqI k (u_8 6) 6 (hsz)] H := hP
  have hD : va_D A [(t, .inr (4, [.ref q_1, .null, .int 0, .int 0, .int 0])), oq3 q_1 (u_4 0) 0 0 0 0 0, oqI k (u_4 0) 160 (hsz), oq5 q_5 (u_8 0) (u_8 1) (u_8 2) (u_8 3) (u_8 4) (u_8 5) (u_8 6) 2 0 0 0 0 2 0 0, oqI k (u_8 0) 8 (hsw), oqI k (u_8 1) 4 (hsz), oqI k (u_8 2) 8 (hsz), oqI k (u_8 3) 8 (hsz), oqI k (u_8 4) 6 (hsz), oqI k (u_8 5) 6 (hsz), oqI k (u_8 6) 6 (hsz)] := hD
  refine W.widen (k := 10) (n := 227) (Nat.le_of_ble_eq_true rfl) (Nat.le_of_ble_eq_true rfl) ?_
  refine va_putF (D := D) (ci := 4) (v := .ref q_5) (ty := (.object "HalfScales$Thing")) (C := RX5) (T := TX5) (N := 5) hx hb hts hiX5 tyX5 tyX5_ok nmX5 hown hK hP hD hS 0 rfl rfl 1 (by decide) fl21 (fun _ h9 => h9) rfl hin rfl (by decide +kernel) rfl rfl (Nat.le_of_ble_eq_true rfl) dX5_init_23 (fun H locs hP hD hS => ?_)
  have hP : va_P D vwCl [oq4 t q_1 q_5 0 0 0, oq3 q_1 (u_4 0) 0 0 0 0 0, oqI k (u_4 0) 160 (hsz), oq5 q_5 (u_8 0) (u_8 1) (u_8 2) (u_8 3) (u_8 4) (u_8 5) (u_8 6) 2 0 0 0 0 2 0 0, oqI k (u_8 0) 8 (hsw), oqI k (u_8 1) 4 (hsz), oqI k (u_8 2) 8 (hsz), oqI k (u_8 3) 8 (hsz), oqI k (u_8 4) 6 (hsz), oqI k (u_8 5) 6 (hsz), oqI k (u_8 6) 6 (hsz)] H := hP
  have hD : va_D A [oq4 t q_1 q_5 0 0 0, oq3 q_1 (u_4 0) 0 0 0 0 0, oqI k (u_4 0) 160 (hsz), oq5 q_5 (u_8 0) (u_8 1) (u_8 2) (u_8 3) (u_8 4) (u_8 5) (u_8 6) 2 0 0 0 0 2 0 0, oqI k (u_8 0) 8 (hsw), oqI k (u_8 1) 4 (hsz), oqI k (u_8 2) 8 (hsz), oqI k (u_8 3) 8 (hsz), oqI k (u_8 4) 6 (hsz), oqI k (u_8 5) 6 (hsz), oqI k (u_8 6) 6 (hsz)] := hD
  refine W.widen (k := 10) (n := 227) (Nat.le_of_ble_eq_true rfl) (Nat.le_of_ble_eq_true rfl) ?_
  exact hs_vret hx hb hr hlocks hK hP hD hS (fun i => ([q_1, (u_4 0), q_5, (u_8 0), (u_8 1), (u_8 2), (u_8 3), (u_8 4), (u_8 5), (u_8 6)] : List Nat).getD i 0) [0, 1, 2, 3, 4, 5, 6, 7, 8, 9, 10] rfl (by decide) dX5_init_26 (trivial)
