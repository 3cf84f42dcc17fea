set_option maxHeartbeats 4000000 in
set_option maxRecDepth 100000 in
theorem g_cutsOf (l : Launch) (D : va_G) (k : Nat → ClassId) (sz : Nat) (t : Nat) (t_a : Nat → Nat) (t_N : Nat → Nat) (t_J : Nat → Int32) (cells : Int32)  : MI l yX1_cutsOf wsX1_cutsOf ({ frames := 1, cells := 0, slots := 0, locals := 20 }) D k [.ref t, .int cells] [oqT t t_a t_N t_J] sz (fun (r : Int32) (u : Unit) => True) (fun (u : Unit) => [oqT t t_a t_N t_J]) := by
  refine Met.ofW (cc := cX1_cutsOf) (maxL := 3) (ret := (some .int)) hpn_X1 rfl ?_
  intro p e s m args below meth c s₁ B hml hv
  obtain ⟨rfl, hsz, hP, hK, hD0, hN⟩ := hv
  have hx := B.exec
  have hb := B.bytes
  have hr := B.returns
  have hlocks := B.notSynchronized
  have hts := atoms_spec (ws := wsX1_cutsOf) B.pre
  have hown := findClass_of_methodNamed B.named
  have hown : s.vm.findClass RX1 = some m.cls := hown
  have hiX6 : ∀ w ∈ u_ws RX6 TX6 15, w ∈ wsX1_cutsOf := fun w9 hw9 => List.mem_cons_of_mem _ (igX6 w9 hw9)
  have fl24 := hts (.fieldLink RX1 24 "HalfScales$Thing" "cellCount" "I") (List.mem_cons_of_mem _ (hs_inG 1 52 rfl rfl))
  subst hsz
  have hD := hD0.self (sz := s.heap.size)
  generalize hAe : va_A [oqT t t_a t_N t_J] s.heap.size = A at hD ⊢
  have hA : ∀ q : Nat, s.heap.size ≤ q → A q := fun q h => by rw [← hAe]; exact Or.inr h
  have hS : va_S A s.heap s.heap [] := va_S.rf
  have hl := lv_entry ([.ref t, .int cells]) (n := 3) (Nat.le_of_ble_eq_true rfl)
  rw [lg_entry_eq]
  generalize (lg_sl ([.ref t, .int cells]) ++ List.replicate (3 - (lg_sl ([.ref t, .int cells])).length) Slot.unset).toArray = ls at hl ⊢
  have hl : lv_has ls 3 [(0, .ref t), (1, .int cells)] := hl
  have hP : va_P D vwCl [oqT t t_a t_N t_J] s.heap := hP
  refine lv_iconst (v := 1) hx hb dX1_cutsOf_0 hki_1 ?_
  refine lv_aload_n hx hb dX1_cutsOf_1 rfl (lv_at hl 0 rfl) ?_
  refine va_get (D := D) (ci := 5) (v := .int (nI (t_N 0))) (C := RX6) (T := TX6) (N := 15) hx hb hts hiX6 hown hK hP 0 rfl rfl 7 (Nat.le_of_ble_eq_true rfl) fl24 (fun _ h9 => h9) rfl dX1_cutsOf_2 ?_
  refine lv_iconst (v := 1) hx hb dX1_cutsOf_5 hki_1 ?_
  refine lv_isub hx hb dX1_cutsOf_6 ?_
  refine lv_ishl hx hb dX1_cutsOf_7 ?_
  refine lv_iconst (v := 1) hx hb dX1_cutsOf_8 hki_1 ?_
  refine lv_isub hx hb dX1_cutsOf_9 ?_
  refine lv_istore_n (lv' := [(2, .int ((1 <<< (((nI (t_N 0)) - 1) &&& 31)) - 1)), (0, .ref t), (1, .int cells)]) hx hb dX1_cutsOf_10 rfl hl (Nat.le_of_ble_eq_true rfl) rfl (fun ls hl => ?_)
  refine lv_iload_n hx hb dX1_cutsOf_11 rfl (lv_at hl 2 rfl) ?_
  refine lv_iload_n hx hb dX1_cutsOf_12 rfl (lv_at hl 2 rfl) ?_
  refine lv_iconst (v := 1) hx hb dX1_cutsOf_13 hki_1 ?_
  refine lv_ishr hx hb dX1_cutsOf_14 ?_
  refine lv_ixor hx hb dX1_cutsOf_15 ?_
  refine lv_iload_n hx hb dX1_cutsOf_16 rfl (lv_at hl 0 rfl) ?_
  refine lv_iand hx hb dX1_cutsOf_17 ?_
  refine hs_pi (va_runS (As := [.int ((cells ^^^ (cells >>> (1 &&& 31))) &&& ((1 <<< (((nI (t_N 0)) - 1) &&& 31)) - 1))]) (rest := []) ⟨hx, hb, hml, hown, hts⟩ (g_bitCount l D k _ ((cells ^^^ (cells >>> (1 &&& 31))) &&& ((1 <<< (((nI (t_N 0)) - 1) &&& 31)) - 1))) (va_cwS 1 hts gX1_cutsOf_J6_bitCount_0f7a4 rfl rfl rfl hq_J6_bitCount_0f7a4 ⟨Nat.le_of_ble_eq_true rfl, Nat.le_of_ble_eq_true rfl⟩) (hs_preS hK hN (hs_subP (w := []) hP [] rfl) (hD.sub (ws' := []) [] rfl rfl)) rfl rfl hl.1 rfl (lv_room (Nat.le_of_ble_eq_true rfl)) dX1_cutsOf_18 ⟨Nat.le_of_ble_eq_true rfl, Nat.le_of_ble_eq_true rfl⟩) hP hD hS hA (fun r_1 u_3 H locs hw_2 hP hS => ?_)
  exact hs_iret hx hb hr hlocks hK hP hD hS () [0] rfl (hs_upnd rfl) dX1_cutsOf_21 (trivial)

set_option maxHeartbeats 4000000 in
set_option maxRecDepth 100000 in
theorem g_honestCut (l : Launch) (D : va_G) (k : Nat → ClassId) (sz : Nat) (t : Nat) (t_a : Nat → Nat) (t_N : Nat → Nat) (t_J : Nat → Int32) (t_F : Nat → Nat → Int32) (j : Nat) (hN0 : thN t_N) (hj : j < 4) : MI l yX1_honestCut wsX1_honestCut ({ frames := 2, cells := 0, slots := 0, locals := 50 }) D k [.ref t, .int (nI j)] [oqT t t_a t_N t_J, oqF0 k t_a t_F, oqF1 k t_a t_F, oqF2 k t_a t_F, oqF3 k t_a t_F, oqF4 k t_a t_F, oqF5 k t_a t_F, oqF6 k t_a t_F] sz (fun (r : Int32) (u : Unit) => True) (fun (u : Unit) => [oqT t t_a t_N t_J, oqF0 k t_a t_F, oqF1 k t_a t_F, oqF2 k t_a t_F, oqF3 k t_a t_F, oqF4 k t_a t_F, oqF5 k t_a t_F, oqF6 k t_a t_F]) := by
  refine Met.ofW (cc := cX1_honestCut) (maxL := 6) (ret := (some .int)) hpn_X1 rfl ?_
  intro p e s m args below meth c s₁ B hml hv
  obtain ⟨rfl, hsz, hP, hK, hD0, hN⟩ := hv
  have hx := B.exec
  have hb := B.bytes
  have hr := B.returns
  have hlocks := B.notSynchronized
  have hts := atoms_spec (ws := wsX1_honestCut) B.pre
  have hown := findClass_of_methodNamed B.named
  have hown : s.vm.findClass RX1 = some m.cls := hown
  have hiX6 : ∀ w ∈ u_ws RX6 TX6 15, w ∈ wsX1_honestCut := fun w9 hw9 => List.mem_cons_of_mem _ (igX6 w9 hw9)
  have fl24 := hts (.fieldLink RX1 24 "HalfScales$Thing" "cellCount" "I") (List.mem_cons_of_mem _ (hs_inG 1 52 rfl rfl))
  have mm19 := hts (.methodLink RX1 19 Lib.Math.abs.name) (List.mem_cons_of_mem _ (hs_inG 3 99 rfl rfl))
  have msabs := hts (.static Lib.Math.abs.name) (List.mem_cons_of_mem _ (hs_inG 3 69 rfl rfl))
  have mi := hts (.initialized "java/lang/Math") (List.mem_cons_of_mem _ (hs_inG 1 14 rfl rfl))
  have mcabs := hts (.code Lib.Math.abs.name Lib.Math.abs.code 1 (some .int)) (List.mem_cons_of_mem _ (hs_inG 3 70 rfl rfl))
  obtain ⟨I0, I1, ⟨I2, I2b⟩, I3, I4⟩ := hN0
  subst hsz
  have hD := hD0.self (sz := s.heap.size)
  generalize hAe : va_A [oqT t t_a t_N t_J, oqF0 k t_a t_F, oqF1 k t_a t_F, oqF2 k t_a t_F, oqF3 k t_a t_F, oqF4 k t_a t_F, oqF5 k t_a t_F, oqF6 k t_a t_F] s.heap.size = A at hD ⊢
  have hA : ∀ q : Nat, s.heap.size ≤ q → A q := fun q h => by rw [← hAe]; exact Or.inr h
  have hS : va_S A s.heap s.heap [] := va_S.rf
  have hl := lv_entry ([.ref t, .int (nI j)]) (n := 6) (Nat.le_of_ble_eq_true rfl)
  rw [lg_entry_eq]
  generalize (lg_sl ([.ref t, .int (nI j)]) ++ List.replicate (6 - (lg_sl ([.ref t, .int (nI j)])).length) Slot.unset).toArray = ls at hl ⊢
  have hl : lv_has ls 6 [(0, .ref t), (1, .int (nI j))] := hl
  have hP : va_P D vwCl [oqT t t_a t_N t_J, oqF0 k t_a t_F, oqF1 k t_a t_F, oqF2 k t_a t_F, oqF3 k t_a t_F, oqF4 k t_a t_F, oqF5 k t_a t_F, oqF6 k t_a t_F] s.heap := hP
  refine lv_iconst (v := 1) hx hb dX1_honestCut_0 hki_1 ?_
  refine lv_istore_n (lv' := [(2, .int 1), (0, .ref t), (1, .int (nI j))]) hx hb dX1_honestCut_1 rfl hl (Nat.le_of_ble_eq_true rfl) rfl (fun ls hl => ?_)
  refine lv_aload_n hx hb dX1_honestCut_2 rfl (lv_at hl 1 rfl) ?_
  refine lv_iload_n hx hb dX1_honestCut_3 rfl (lv_at hl 2 rfl) ?_
  refine lv_aload_n hx hb dX1_honestCut_4 rfl (lv_at hl 1 rfl) ?_
  refine lv_iconst (v := 1) hx hb dX1_honestCut_5 hki_1 ?_
  refine hs_ciM (va_runV (As := [.int 1]) (rest := [.int (nI j), .ref t]) ⟨hx, hb, hml, hown, hts⟩ (g_leftOf l D k _ t t_a t_N t_J 1) (cwV 1 hts gX1_honestCut_X6_leftOf rfl rfl rfl ⟨rfl, hq_X6_leftOf⟩ ⟨Nat.le_of_ble_eq_true rfl, Nat.le_of_ble_eq_true rfl⟩) (hs_preV hK hN (hs_subP (w := [_]) hP [0] rfl) (hD.sub (ws' := [_]) [0] (hs_upnd rfl) rfl) (ci := 5) (q0 := 0) rfl rfl) rfl rfl hl.1 rfl (lv_room (Nat.le_of_ble_eq_true rfl)) dX1_honestCut_6 ⟨Nat.le_of_ble_eq_true rfl, Nat.le_of_ble_eq_true rfl⟩) hP hD hS hA [false, true, true, true, true, true, true, true] [_, _, _, _, _, _, _] [_] rfl [0] rfl [0] (fun u_3 => [_]) (fun _ => rfl) (hs_upnd rfl) [false, true, true, true, true, true, true, true] (fun u_3 => [_, _, _, _, _, _, _, _]) (fun _ => rfl) (fun r_1 u_3 H locs hw_2 hP hD hS => ?_)
  refine hs_ciM (va_runV (As := [.int (nI j), .int r_1]) (rest := []) ⟨hx, hb, hml, hown, hts⟩ (g_lead l D k _ t t_a t_N t_J t_F j r_1 (by first | assumption | exact ⟨by first | omega | (dsimp; omega), by first | omega | (dsimp; omega), ⟨by first | omega | (dsimp; omega), by first | omega | (dsimp; omega)⟩, by first | omega | (dsimp; omega), by first | omega | (dsimp; omega)⟩) (by omega)) (cwV 2 hts gX1_honestCut_X6_lead rfl rfl rfl ⟨rfl, hq_X6_lead⟩ ⟨Nat.le_of_ble_eq_true rfl, Nat.le_of_ble_eq_true rfl⟩) (hs_preV hK hN (hs_subP (w := [_, _, _, _, _, _, _, _]) hP [0, 1, 2, 3, 4, 5, 6, 7] rfl) (hD.sub (ws' := [_, _, _, _, _, _, _, _]) [0, 1, 2, 3, 4, 5, 6, 7] (hs_upnd rfl) rfl) (ci := 5) (q0 := 0) rfl rfl) rfl rfl hl.1 rfl (lv_room (Nat.le_of_ble_eq_true rfl)) dX1_honestCut_9 ⟨Nat.le_of_ble_eq_true rfl, Nat.le_of_ble_eq_true rfl⟩) hP hD hS hA [false, false, false, false, false, false, false, false] [] [_, _, _, _, _, _, _, _] rfl [0, 1, 2, 3, 4, 5, 6, 7] rfl [0, 1, 2, 3, 4, 5, 6, 7] (fun u_6 => [_, _, _, _, _, _, _, _]) (fun _ => rfl) (hs_upnd rfl) [false, false, false, false, false, false, false, false] (fun u_6 => [_, _, _, _, _, _, _, _]) (fun _ => rfl) (fun r_4 u_6 H locs hw_5 hP hD hS => ?_)
  refine va_mabs hx hb (hml.trans hl.1.symm) hown mm19 msabs mi mcabs (Nat.le_of_ble_eq_true rfl) (Nat.le_of_ble_eq_true rfl) (Nat.zero_le _) (Nat.zero_le _) dX1_honestCut_12 ?_
  refine lv_istore_n (lv' := [(3, .int (if 0 ≤ r_4 then r_4 else 0 - r_4)), (2, .int 1), (0, .ref t), (1, .int (nI j))]) hx hb dX1_honestCut_15 rfl hl (Nat.le_of_ble_eq_true rfl) rfl (fun ls hl => ?_)
  refine lv_iconst (v := 2) hx hb dX1_honestCut_16 hki_2 ?_
  refine lv_istore (lv' := [(4, .int 2), (3, .int (if 0 ≤ r_4 then r_4 else 0 - r_4)), (2, .int 1), (0, .ref t), (1, .int (nI j))]) hx hb dX1_honestCut_17 hl (Nat.le_of_ble_eq_true rfl) rfl (fun ls hl => ?_)
  refine hs_while (σ := Int32 × Int32 × Nat) (fun x => x.2.2 ≤ t_N 0 + 2) (fun x => t_N 0 + 2 - x.2.2) (fun x => [oqT t t_a t_N t_J, oqF0 k t_a t_F, oqF1 k t_a t_F, oqF2 k t_a t_F, oqF3 k t_a t_F, oqF4 k t_a t_F, oqF5 k t_a t_F, oqF6 k t_a t_F]) (fun x => [(4, .int (nI (x.2.2))), (3, .int (x.2.1)), (2, .int (x.1)), (0, .ref t), (1, .int (nI j))]) ?_ (1, if 0 ≤ r_4 then r_4 else 0 - r_4, 2) ?_ hP hD hS hl
  · intro x hI ih19 H locs ls hP hD hS hl
    obtain ⟨best, least, kk⟩ := x
    try dsimp only at hI
    have hP : va_P D vwCl [_, _, _, _, _, _, _, _] H := hP
    have hD : va_D A [_, _, _, _, _, _, _, _] := hD
    have hl : lv_has ls 6 [(4, .int (nI kk)), (3, .int least), (2, .int best), (0, .ref t), (1, .int (nI j))] := hl
    refine lv_iload hx hb dX1_honestCut_19 (lv_at hl 0 rfl) ?_
    refine lv_aload_n hx hb dX1_honestCut_21 rfl (lv_at hl 3 rfl) ?_
    refine va_get (D := D) (ci := 5) (v := .int (nI (t_N 0))) (C := RX6) (T := TX6) (N := 15) hx hb hts hiX6 hown hK hP 0 rfl rfl 7 (Nat.le_of_ble_eq_true rfl) fl24 (fun _ h9 => h9) rfl dX1_honestCut_22 ?_
    refine lv_icmp_ge (tgt := 62) hx hb dX1_honestCut_25 rfl (fun c_7 => ?_) (fun c_7 => ?_)
    · have nc_7 : (t_N 0) ≤ kk := (nI_leI (a := (t_N 0)) (b := kk) (by omega) (by omega)).mp c_7
      refine lv_iload_n hx hb dX1_honestCut_62 rfl (lv_at hl 2 rfl) ?_
      exact hs_iret hx hb hr hlocks hK hP hD hS () [0, 1, 2, 3, 4, 5, 6, 7] rfl (hs_upnd rfl) dX1_honestCut_63 (trivial)
    · have nc_7 : ¬ (t_N 0) ≤ kk := fun hq9 => c_7 ((nI_leI (a := (t_N 0)) (b := kk) (by omega) (by omega)).mpr hq9)
      refine lv_aload_n hx hb dX1_honestCut_28 rfl (lv_at hl 3 rfl) ?_
      refine lv_iload_n hx hb dX1_honestCut_29 rfl (lv_at hl 4 rfl) ?_
      refine lv_aload_n hx hb dX1_honestCut_30 rfl (lv_at hl 3 rfl) ?_
      refine lv_iload hx hb dX1_honestCut_31 (lv_at hl 0 rfl) ?_
      refine hs_ciM (va_runV (As := [.int (nI kk)]) (rest := [.int (nI j), .ref t]) ⟨hx, hb, hml, hown, hts⟩ (g_leftOf l D k _ t t_a t_N t_J (nI kk)) (cwV 1 hts gX1_honestCut_X6_leftOf rfl rfl rfl ⟨rfl, hq_X6_leftOf⟩ ⟨Nat.le_of_ble_eq_true rfl, Nat.le_of_ble_eq_true rfl⟩) (hs_preV hK hN (hs_subP (w := [_]) hP [0] rfl) (hD.sub (ws' := [_]) [0] (hs_upnd rfl) rfl) (ci := 5) (q0 := 0) rfl rfl) rfl rfl hl.1 rfl (lv_room (Nat.le_of_ble_eq_true rfl)) dX1_honestCut_33 ⟨Nat.le_of_ble_eq_true rfl, Nat.le_of_ble_eq_true rfl⟩) hP hD hS hA [false, true, true, true, true, true, true, true] [_, _, _, _, _, _, _] [_] rfl [0] rfl [0] (fun u_10 => [_]) (fun _ => rfl) (hs_upnd rfl) [false, true, true, true, true, true, true, true] (fun u_10 => [_, _, _, _, _, _, _, _]) (fun _ => rfl) (fun r_8 u_10 H locs hw_9 hP hD hS => ?_)
      refine hs_ciM (va_runV (As := [.int (nI j), .int r_8]) (rest := []) ⟨hx, hb, hml, hown, hts⟩ (g_lead l D k _ t t_a t_N t_J t_F j r_8 (by first | assumption | exact ⟨by first | omega | (dsimp; omega), by first | omega | (dsimp; omega), ⟨by first | omega | (dsimp; omega), by first | omega | (dsimp; omega)⟩, by first | omega | (dsimp; omega), by first | omega | (dsimp; omega)⟩) (by omega)) (cwV 2 hts gX1_honestCut_X6_lead rfl rfl rfl ⟨rfl, hq_X6_lead⟩ ⟨Nat.le_of_ble_eq_true rfl, Nat.le_of_ble_eq_true rfl⟩) (hs_preV hK hN (hs_subP (w := [_, _, _, _, _, _, _, _]) hP [0, 1, 2, 3, 4, 5, 6, 7] rfl) (hD.sub (ws' := [_, _, _, _, _, _, _, _]) [0, 1, 2, 3, 4, 5, 6, 7] (hs_upnd rfl) rfl) (ci := 5) (q0 := 0) rfl rfl) rfl rfl hl.1 rfl (lv_room (Nat.le_of_ble_eq_true rfl)) dX1_honestCut_36 ⟨Nat.le_of_ble_eq_true rfl, Nat.le_of_ble_eq_true rfl⟩) hP hD hS hA [false, false, false, false, false, false, false, false] [] [_, _, _, _, _, _, _, _] rfl [0, 1, 2, 3, 4, 5, 6, 7] rfl [0, 1, 2, 3, 4, 5, 6, 7] (fun u_13 => [_, _, _, _, _, _, _, _]) (fun _ => rfl) (hs_upnd rfl) [false, false, false, false, false, false, false, false] (fun u_13 => [_, _, _, _, _, _, _, _]) (fun _ => rfl) (fun r_11 u_13 H locs hw_12 hP hD hS => ?_)
      refine va_mabs hx hb (hml.trans hl.1.symm) hown mm19 msabs mi mcabs (Nat.le_of_ble_eq_true rfl) (Nat.le_of_ble_eq_true rfl) (Nat.zero_le _) (Nat.zero_le _) dX1_honestCut_39 ?_
      refine lv_istore (lv' := [(5, .int (if 0 ≤ r_11 then r_11 else 0 - r_11)), (4, .int (nI kk)), (3, .int least), (2, .int best), (0, .ref t), (1, .int (nI j))]) hx hb dX1_honestCut_42 hl (Nat.le_of_ble_eq_true rfl) rfl (fun ls hl => ?_)
      refine lv_iload hx hb dX1_honestCut_44 (lv_at hl 0 rfl) ?_
      refine lv_iload_n hx hb dX1_honestCut_46 rfl (lv_at hl 2 rfl) ?_
      refine lv_icmp_ge (tgt := 56) hx hb dX1_honestCut_47 rfl (fun c_14 => ?_) (fun c_14 => ?_)
      · refine lv_iinc (v := nI (kk + 1)) (lv' := [(4, .int (nI (kk + 1))), (5, .int (if 0 ≤ r_11 then r_11 else 0 - r_11)), (3, .int least), (2, .int best), (0, .ref t), (1, .int (nI j))]) hx hb dX1_honestCut_56 hl (k := 1) rfl (nI_add (kk) 1) (Nat.le_of_ble_eq_true rfl) rfl (fun ls hl => ?_)
        refine lv_goto (tgt := 19) hx hb dX1_honestCut_59 rfl ?_
        exact ih19 (best, least, kk + 1) (by (try dsimp only); first | omega | (refine ⟨?_, ?_⟩ <;> first | omega | assumption)) (by (try dsimp only); omega) _ _ _ hP hD hS (lv_sub hl [0, 2, 3, 4, 5] rfl)
      · refine lv_iload hx hb dX1_honestCut_50 (lv_at hl 1 rfl) ?_
        refine lv_istore_n (lv' := [(2, .int (nI kk)), (5, .int (if 0 ≤ r_11 then r_11 else 0 - r_11)), (4, .int (nI kk)), (3, .int least), (0, .ref t), (1, .int (nI j))]) hx hb dX1_honestCut_52 rfl hl (Nat.le_of_ble_eq_true rfl) rfl (fun ls hl => ?_)
        refine lv_iload hx hb dX1_honestCut_53 (lv_at hl 1 rfl) ?_
        refine lv_istore_n (lv' := [(3, .int (if 0 ≤ r_11 then r_11 else 0 - r_11)), (2, .int (nI kk)), (5, .int (if 0 ≤ r_11 then r_11 else 0 - r_11)), (4, .int (nI kk)), (0, .ref t), (1, .int (nI j))]) hx hb dX1_honestCut_55 rfl hl (Nat.le_of_ble_eq_true rfl) rfl (fun ls hl => ?_)
        refine lv_iinc (v := nI (kk + 1)) (lv' := [(4, .int (nI (kk + 1))), (3, .int (if 0 ≤ r_11 then r_11 else 0 - r_11)), (2, .int (nI kk)), (5, .int (if 0 ≤ r_11 then r_11 else 0 - r_11)), (0, .ref t), (1, .int (nI j))]) hx hb dX1_honestCut_56 hl (k := 3) rfl (nI_add (kk) 1) (Nat.le_of_ble_eq_true rfl) rfl (fun ls hl => ?_)
        refine lv_goto (tgt := 19) hx hb dX1_honestCut_59 rfl ?_
        exact ih19 (nI kk, if 0 ≤ r_11 then r_11 else 0 - r_11, kk + 1) (by (try dsimp only); first | omega | (refine ⟨?_, ?_⟩ <;> first | omega | assumption)) (by (try dsimp only); omega) _ _ _ hP hD hS (lv_sub hl [0, 1, 2, 4, 5] rfl)
  · (try dsimp only); first | omega | (refine ⟨?_, ?_⟩ <;> first | omega | assumption)

set_option maxHeartbeats 4000000 in
set_option maxRecDepth 100000 in
theorem g_choice (l : Launch) (D : va_G) (k : Nat → ClassId) (sz : Nat) (t : Nat) (t_a : Nat → Nat) (t_N : Nat → Nat) (t_J : Nat → Int32) (t_F : Nat → Nat → Int32) (j : Nat) (kk : Int32) (hN0 : thN t_N) (hj : j < 4) : MI l yX1_choice wsX1_choice ({ frames := 2, cells := 0, slots := 0, locals := 50 }) D k [.ref t, .int (nI j), .int kk] [oqT t t_a t_N t_J, oqF0 k t_a t_F, oqF1 k t_a t_F, oqF2 k t_a t_F, oqF3 k t_a t_F, oqF4 k t_a t_F, oqF5 k t_a t_F, oqF6 k t_a t_F] sz (fun (r : Int32) (u : Unit) => True) (fun (u : Unit) => [oqT t t_a t_N t_J, oqF0 k t_a t_F, oqF1 k t_a t_F, oqF2 k t_a t_F, oqF3 k t_a t_F, oqF4 k t_a t_F, oqF5 k t_a t_F, oqF6 k t_a t_F]) := by
  refine Met.ofW (cc := cX1_choice) (maxL := 4) (ret := (some .int)) hpn_X1 rfl ?_
  intro p e s m args below meth c s₁ B hml hv
  obtain ⟨rfl, hsz, hP, hK, hD0, hN⟩ := hv
  have hx := B.exec
  have hb := B.bytes
  have hr := B.returns
  have hlocks := B.notSynchronized
  have hts := atoms_spec (ws := wsX1_choice) B.pre
  have hown := findClass_of_methodNamed B.named
  have hown : s.vm.findClass RX1 = some m.cls := hown
  obtain ⟨I0, I1, ⟨I2, I2b⟩, I3, I4⟩ := hN0
  subst hsz
  have hD := hD0.self (sz := s.heap.size)
  generalize hAe : va_A [oqT t t_a t_N t_J, oqF0 k t_a t_F, oqF1 k t_a t_F, oqF2 k t_a t_F, oqF3 k t_a t_F, oqF4 k t_a t_F, oqF5 k t_a t_F, oqF6 k t_a t_F] s.heap.size = A at hD ⊢
  have hA : ∀ q : Nat, s.heap.size ≤ q → A q := fun q h => by rw [← hAe]; exact Or.inr h
  have hS : va_S A s.heap s.heap [] := va_S.rf
  have hl := lv_entry ([.ref t, .int (nI j), .int kk]) (n := 4) (Nat.le_of_ble_eq_true rfl)
  rw [lg_entry_eq]
  generalize (lg_sl ([.ref t, .int (nI j), .int kk]) ++ List.replicate (4 - (lg_sl ([.ref t, .int (nI j), .int kk])).length) Slot.unset).toArray = ls at hl ⊢
  have hl : lv_has ls 4 [(0, .ref t), (1, .int (nI j)), (2, .int kk)] := hl
  have hP : va_P D vwCl [oqT t t_a t_N t_J, oqF0 k t_a t_F, oqF1 k t_a t_F, oqF2 k t_a t_F, oqF3 k t_a t_F, oqF4 k t_a t_F, oqF5 k t_a t_F, oqF6 k t_a t_F] s.heap := hP
  refine lv_aload_n hx hb dX1_choice_0 rfl (lv_at hl 0 rfl) ?_
  refine lv_iload_n hx hb dX1_choice_1 rfl (lv_at hl 2 rfl) ?_
  refine hs_ciM (va_runV (As := [.int kk]) (rest := []) ⟨hx, hb, hml, hown, hts⟩ (g_leftOf l D k _ t t_a t_N t_J kk) (cwV 1 hts gX1_choice_X6_leftOf rfl rfl rfl ⟨rfl, hq_X6_leftOf⟩ ⟨Nat.le_of_ble_eq_true rfl, Nat.le_of_ble_eq_true rfl⟩) (hs_preV hK hN (hs_subP (w := [_]) hP [0] rfl) (hD.sub (ws' := [_]) [0] (hs_upnd rfl) rfl) (ci := 5) (q0 := 0) rfl rfl) rfl rfl hl.1 rfl (lv_room (Nat.le_of_ble_eq_true rfl)) dX1_choice_2 ⟨Nat.le_of_ble_eq_true rfl, Nat.le_of_ble_eq_true rfl⟩) hP hD hS hA [false, true, true, true, true, true, true, true] [_, _, _, _, _, _, _] [_] rfl [0] rfl [0] (fun u_3 => [_]) (fun _ => rfl) (hs_upnd rfl) [false, true, true, true, true, true, true, true] (fun u_3 => [_, _, _, _, _, _, _, _]) (fun _ => rfl) (fun r_1 u_3 H locs hw_2 hP hD hS => ?_)
  refine lv_istore_n (lv' := [(3, .int r_1), (0, .ref t), (1, .int (nI j)), (2, .int kk)]) hx hb dX1_choice_5 rfl hl (Nat.le_of_ble_eq_true rfl) rfl (fun ls hl => ?_)
  refine lv_aload_n hx hb dX1_choice_6 rfl (lv_at hl 1 rfl) ?_
  refine lv_iload_n hx hb dX1_choice_7 rfl (lv_at hl 2 rfl) ?_
  refine lv_iload_n hx hb dX1_choice_8 rfl (lv_at hl 0 rfl) ?_
  refine hs_ciM (va_runV (As := [.int (nI j), .int r_1]) (rest := []) ⟨hx, hb, hml, hown, hts⟩ (g_lead l D k _ t t_a t_N t_J t_F j r_1 (by first | assumption | exact ⟨by first | omega | (dsimp; omega), by first | omega | (dsimp; omega), ⟨by first | omega | (dsimp; omega), by first | omega | (dsimp; omega)⟩, by first | omega | (dsimp; omega), by first | omega | (dsimp; omega)⟩) (by omega)) (cwV 2 hts gX1_choice_X6_lead rfl rfl rfl ⟨rfl, hq_X6_lead⟩ ⟨Nat.le_of_ble_eq_true rfl, Nat.le_of_ble_eq_true rfl⟩) (hs_preV hK hN (hs_subP (w := [_, _, _, _, _, _, _, _]) hP [0, 1, 2, 3, 4, 5, 6, 7] rfl) (hD.sub (ws' := [_, _, _, _, _, _, _, _]) [0, 1, 2, 3, 4, 5, 6, 7] (hs_upnd rfl) rfl) (ci := 5) (q0 := 0) rfl rfl) rfl rfl hl.1 rfl (lv_room (Nat.le_of_ble_eq_true rfl)) dX1_choice_9 ⟨Nat.le_of_ble_eq_true rfl, Nat.le_of_ble_eq_true rfl⟩) hP hD hS hA [false, false, false, false, false, false, false, false] [] [_, _, _, _, _, _, _, _] rfl [0, 1, 2, 3, 4, 5, 6, 7] rfl [0, 1, 2, 3, 4, 5, 6, 7] (fun u_6 => [_, _, _, _, _, _, _, _]) (fun _ => rfl) (hs_upnd rfl) [false, false, false, false, false, false, false, false] (fun u_6 => [_, _, _, _, _, _, _, _]) (fun _ => rfl) (fun r_4 u_6 H locs hw_5 hP hD hS => ?_)
  refine lv_if_lt (tgt := 19) hx hb dX1_choice_12 rfl (fun c_7 => ?_) (fun c_7 => ?_)
  · refine lv_aload_n hx hb dX1_choice_19 rfl (lv_at hl 1 rfl) ?_
    refine hs_ciM (va_runV (As := []) (rest := []) ⟨hx, hb, hml, hown, hts⟩ (g_allCells l D k _ t t_a t_N t_J (by first | assumption | exact ⟨by first | omega | (dsimp; omega), by first | omega | (dsimp; omega), ⟨by first | omega | (dsimp; omega), by first | omega | (dsimp; omega)⟩, by first | omega | (dsimp; omega), by first | omega | (dsimp; omega)⟩)) (cwV 0 hts gX1_choice_X6_allCells rfl rfl rfl ⟨rfl, hq_X6_allCells⟩ ⟨Nat.le_of_ble_eq_true rfl, Nat.le_of_ble_eq_true rfl⟩) (hs_preV hK hN (hs_subP (w := [_]) hP [0] rfl) (hD.sub (ws' := [_]) [0] (hs_upnd rfl) rfl) (ci := 5) (q0 := 0) rfl rfl) rfl rfl hl.1 rfl (lv_room (Nat.le_of_ble_eq_true rfl)) dX1_choice_20 ⟨Nat.le_of_ble_eq_true rfl, Nat.le_of_ble_eq_true rfl⟩) hP hD hS hA [false, true, true, true, true, true, true, true] [_, _, _, _, _, _, _] [_] rfl [0] rfl [0] (fun u_10 => [_]) (fun _ => rfl) (hs_upnd rfl) [false, true, true, true, true, true, true, true] (fun u_10 => [_, _, _, _, _, _, _, _]) (fun _ => rfl) (fun r_8 u_10 H locs hw_9 hP hD hS => ?_)
    refine hs_topi (nI (2 ^ (t_N 0) - 1)) hw_9 ?_
    refine lv_iload_n hx hb dX1_choice_23 rfl (lv_at hl 0 rfl) ?_
    refine lv_iconst (v := (-1)) hx hb dX1_choice_24 hki_m1 ?_
    refine lv_ixor hx hb dX1_choice_25 ?_
    refine lv_iand hx hb dX1_choice_26 ?_
    exact hs_iret hx hb hr hlocks hK hP hD hS () [0, 1, 2, 3, 4, 5, 6, 7] rfl (hs_upnd rfl) dX1_choice_27 (trivial)
  · refine lv_iload_n hx hb dX1_choice_15 rfl (lv_at hl 0 rfl) ?_
    refine lv_goto (tgt := 27) hx hb dX1_choice_16 rfl ?_
    exact hs_iret hx hb hr hlocks hK hP hD hS () [0, 1, 2, 3, 4, 5, 6, 7] rfl (hs_upnd rfl) dX1_choice_27 (trivial)

set_option maxHeartbeats 4000000 in
set_option maxRecDepth 100000 in
theorem g_leftOver (l : Launch) (D : va_G) (k : Nat → ClassId) (sz : Nat) (t : Nat) (t_a : Nat → Nat) (t_N : Nat → Nat) (t_J : Nat → Int32) (t_F : Nat → Nat → Int32) (j : Nat) (j2 : Nat) (kk : Int32) (hN0 : thN t_N) (hj : j < 4) (hj2 : j2 < 4) : MI l yX1_leftOver wsX1_leftOver ({ frames := 3, cells := 0, slots := 0, locals := 73 }) D k [.ref t, .int (nI j), .int (nI j2), .int kk] [oqT t t_a t_N t_J, oqF0 k t_a t_F, oqF1 k t_a t_F, oqF2 k t_a t_F, oqF3 k t_a t_F, oqF4 k t_a t_F, oqF5 k t_a t_F, oqF6 k t_a t_F] sz (fun (r : Int32) (u : Unit) => True) (fun (u : Unit) => [oqT t t_a t_N t_J, oqF0 k t_a t_F, oqF1 k t_a t_F, oqF2 k t_a t_F, oqF3 k t_a t_F, oqF4 k t_a t_F, oqF5 k t_a t_F, oqF6 k t_a t_F]) := by
  refine Met.ofW (cc := cX1_leftOver) (maxL := 4) (ret := (some .int)) hpn_X1 rfl ?_
  intro p e s m args below meth c s₁ B hml hv
  obtain ⟨rfl, hsz, hP, hK, hD0, hN⟩ := hv
  have hx := B.exec
  have hb := B.bytes
  have hr := B.returns
  have hlocks := B.notSynchronized
  have hts := atoms_spec (ws := wsX1_leftOver) B.pre
  have hown := findClass_of_methodNamed B.named
  have hown : s.vm.findClass RX1 = some m.cls := hown
  obtain ⟨I0, I1, ⟨I2, I2b⟩, I3, I4⟩ := hN0
  subst hsz
  have hD := hD0.self (sz := s.heap.size)
  generalize hAe : va_A [oqT t t_a t_N t_J, oqF0 k t_a t_F, oqF1 k t_a t_F, oqF2 k t_a t_F, oqF3 k t_a t_F, oqF4 k t_a t_F, oqF5 k t_a t_F, oqF6 k t_a t_F] s.heap.size = A at hD ⊢
  have hA : ∀ q : Nat, s.heap.size ≤ q → A q := fun q h => by rw [← hAe]; exact Or.inr h
  have hS : va_S A s.heap s.heap [] := va_S.rf
  have hl := lv_entry ([.ref t, .int (nI j), .int (nI j2), .int kk]) (n := 4) (Nat.le_of_ble_eq_true rfl)
  rw [lg_entry_eq]
  generalize (lg_sl ([.ref t, .int (nI j), .int (nI j2), .int kk]) ++ List.replicate (4 - (lg_sl ([.ref t, .int (nI j), .int (nI j2), .int kk])).length) Slot.unset).toArray = ls at hl ⊢
  have hl : lv_has ls 4 [(0, .ref t), (1, .int (nI j)), (2, .int (nI j2)), (3, .int kk)] := hl
  have hP : va_P D vwCl [oqT t t_a t_N t_J, oqF0 k t_a t_F, oqF1 k t_a t_F, oqF2 k t_a t_F, oqF3 k t_a t_F, oqF4 k t_a t_F, oqF5 k t_a t_F, oqF6 k t_a t_F] s.heap := hP
  refine lv_aload_n hx hb dX1_leftOver_0 rfl (lv_at hl 0 rfl) ?_
  refine lv_iload_n hx hb dX1_leftOver_1 rfl (lv_at hl 1 rfl) ?_
  refine lv_aload_n hx hb dX1_leftOver_2 rfl (lv_at hl 0 rfl) ?_
  refine hs_ciM (va_runV (As := []) (rest := [.int (nI j), .ref t]) ⟨hx, hb, hml, hown, hts⟩ (g_allCells l D k _ t t_a t_N t_J (by first | assumption | exact ⟨by first | omega | (dsimp; omega), by first | omega | (dsimp; omega), ⟨by first | omega | (dsimp; omega), by first | omega | (dsimp; omega)⟩, by first | omega | (dsimp; omega), by first | omega | (dsimp; omega)⟩)) (cwV 0 hts gX1_leftOver_X6_allCells rfl rfl rfl ⟨rfl, hq_X6_allCells⟩ ⟨Nat.le_of_ble_eq_true rfl, Nat.le_of_ble_eq_true rfl⟩) (hs_preV hK hN (hs_subP (w := [_]) hP [0] rfl) (hD.sub (ws' := [_]) [0] (hs_upnd rfl) rfl) (ci := 5) (q0 := 0) rfl rfl) rfl rfl hl.1 rfl (lv_room (Nat.le_of_ble_eq_true rfl)) dX1_leftOver_3 ⟨Nat.le_of_ble_eq_true rfl, Nat.le_of_ble_eq_true rfl⟩) hP hD hS hA [false, true, true, true, true, true, true, true] [_, _, _, _, _, _, _] [_] rfl [0] rfl [0] (fun u_3 => [_]) (fun _ => rfl) (hs_upnd rfl) [false, true, true, true, true, true, true, true] (fun u_3 => [_, _, _, _, _, _, _, _]) (fun _ => rfl) (fun r_1 u_3 H locs hw_2 hP hD hS => ?_)
  refine hs_topi (nI (2 ^ (t_N 0) - 1)) hw_2 ?_
  refine lv_aload_n hx hb dX1_leftOver_6 rfl (lv_at hl 0 rfl) ?_
  refine lv_iload_n hx hb dX1_leftOver_7 rfl (lv_at hl 2 rfl) ?_
  refine lv_iload_n hx hb dX1_leftOver_8 rfl (lv_at hl 3 rfl) ?_
  refine hs_ciM (va_runS (As := [.ref t, .int (nI j2), .int kk]) (rest := [.int (nI (2 ^ (t_N 0) - 1)), .int (nI j), .ref t]) ⟨hx, hb, hml, hown, hts⟩ (g_choice l D k _ t t_a t_N t_J t_F j2 kk (by first | assumption | exact ⟨by first | omega | (dsimp; omega), by first | omega | (dsimp; omega), ⟨by first | omega | (dsimp; omega), by first | omega | (dsimp; omega)⟩, by first | omega | (dsimp; omega), by first | omega | (dsimp; omega)⟩) (by omega)) (va_cwS 3 hts gX1_leftOver_X1_choice rfl rfl rfl hq_X1_choice ⟨Nat.le_of_ble_eq_true rfl, Nat.le_of_ble_eq_true rfl⟩) (hs_preS hK hN (hs_subP (w := [_, _, _, _, _, _, _, _]) hP [0, 1, 2, 3, 4, 5, 6, 7] rfl) (hD.sub (ws' := [_, _, _, _, _, _, _, _]) [0, 1, 2, 3, 4, 5, 6, 7] (hs_upnd rfl) rfl)) rfl rfl hl.1 rfl (lv_room (Nat.le_of_ble_eq_true rfl)) dX1_leftOver_9 ⟨Nat.le_of_ble_eq_true rfl, Nat.le_of_ble_eq_true rfl⟩) hP hD hS hA [false, false, false, false, false, false, false, false] [] [_, _, _, _, _, _, _, _] rfl [0, 1, 2, 3, 4, 5, 6, 7] rfl [0, 1, 2, 3, 4, 5, 6, 7] (fun u_6 => [_, _, _, _, _, _, _, _]) (fun _ => rfl) (hs_upnd rfl) [false, false, false, false, false, false, false, false] (fun u_6 => [_, _, _, _, _, _, _, _]) (fun _ => rfl) (fun r_4 u_6 H locs hw_5 hP hD hS => ?_)
  refine lv_iconst (v := (-1)) hx hb dX1_leftOver_12 hki_m1 ?_
  refine lv_ixor hx hb dX1_leftOver_13 ?_
  refine lv_iand hx hb dX1_leftOver_14 ?_
  refine hs_ciM (va_runV (As := [.int (nI j), .int ((nI (2 ^ (t_N 0) - 1)) &&& (r_4 ^^^ (-1)))]) (rest := []) ⟨hx, hb, hml, hown, hts⟩ (g_worthOf l D k _ t t_a t_N t_J t_F j ((nI (2 ^ (t_N 0) - 1)) &&& (r_4 ^^^ (-1))) (by first | assumption | exact ⟨by first | omega | (dsimp; omega), by first | omega | (dsimp; omega), ⟨by first | omega | (dsimp; omega), by first | omega | (dsimp; omega)⟩, by first | omega | (dsimp; omega), by first | omega | (dsimp; omega)⟩) (by omega)) (cwV 2 hts gX1_leftOver_X6_worthOf rfl rfl rfl ⟨rfl, hq_X6_worthOf⟩ ⟨Nat.le_of_ble_eq_true rfl, Nat.le_of_ble_eq_true rfl⟩) (hs_preV hK hN (hs_subP (w := [_, _, _, _, _, _, _, _]) hP [0, 1, 2, 3, 4, 5, 6, 7] rfl) (hD.sub (ws' := [_, _, _, _, _, _, _, _]) [0, 1, 2, 3, 4, 5, 6, 7] (hs_upnd rfl) rfl) (ci := 5) (q0 := 0) rfl rfl) rfl rfl hl.1 rfl (lv_room (Nat.le_of_ble_eq_true rfl)) dX1_leftOver_15 ⟨Nat.le_of_ble_eq_true rfl, Nat.le_of_ble_eq_true rfl⟩) hP hD hS hA [false, false, false, false, false, false, false, false] [] [_, _, _, _, _, _, _, _] rfl [0, 1, 2, 3, 4, 5, 6, 7] rfl [0, 1, 2, 3, 4, 5, 6, 7] (fun u_9 => [_, _, _, _, _, _, _, _]) (fun _ => rfl) (hs_upnd rfl) [false, false, false, false, false, false, false, false] (fun u_9 => [_, _, _, _, _, _, _, _]) (fun _ => rfl) (fun r_7 u_9 H locs hw_8 hP hD hS => ?_)
  exact hs_iret hx hb hr hlocks hK hP hD hS () [0, 1, 2, 3, 4, 5, 6, 7] rfl (hs_upnd rfl) dX1_leftOver_18 (trivial)

set_option maxHeartbeats 4000000 in
set_option maxRecDepth 100000 in
theorem g_slyCut (l : Launch) (D : va_G) (k : Nat → ClassId) (sz : Nat) (t : Nat) (t_a : Nat → Nat) (t_N : Nat → Nat) (t_J : Nat → Int32) (t_F : Nat → Nat → Int32) (j : Nat) (j2 : Nat) (hN0 : thN t_N) (hj : j < 4) (hj2 : j2 < 4) : MI l yX1_slyCut wsX1_slyCut ({ frames := 4, cells := 0, slots := 0, locals := 96 }) D k [.ref t, .int (nI j), .int (nI j2)] [oqT t t_a t_N t_J, oqF0 k t_a t_F, oqF1 k t_a t_F, oqF2 k t_a t_F, oqF3 k t_a t_F, oqF4 k t_a t_F, oqF5 k t_a t_F, oqF6 k t_a t_F] sz (fun (r : Int32) (u : Unit) => True) (fun (u : Unit) => [oqT t t_a t_N t_J, oqF0 k t_a t_F, oqF1 k t_a t_F, oqF2 k t_a t_F, oqF3 k t_a t_F, oqF4 k t_a t_F, oqF5 k t_a t_F, oqF6 k t_a t_F]) := by
  refine Met.ofW (cc := cX1_slyCut) (maxL := 7) (ret := (some .int)) hpn_X1 rfl ?_
  intro p e s m args below meth c s₁ B hml hv
  obtain ⟨rfl, hsz, hP, hK, hD0, hN⟩ := hv
  have hx := B.exec
  have hb := B.bytes
  have hr := B.returns
  have hlocks := B.notSynchronized
  have hts := atoms_spec (ws := wsX1_slyCut) B.pre
  have hown := findClass_of_methodNamed B.named
  have hown : s.vm.findClass RX1 = some m.cls := hown
  have hiX6 : ∀ w ∈ u_ws RX6 TX6 15, w ∈ wsX1_slyCut := fun w9 hw9 => List.mem_cons_of_mem _ (igX6 w9 hw9)
  have fl24 := hts (.fieldLink RX1 24 "HalfScales$Thing" "cellCount" "I") (List.mem_cons_of_mem _ (hs_inG 1 52 rfl rfl))
  obtain ⟨I0, I1, ⟨I2, I2b⟩, I3, I4⟩ := hN0
  subst hsz
  have hD := hD0.self (sz := s.heap.size)
  generalize hAe : va_A [oqT t t_a t_N t_J, oqF0 k t_a t_F, oqF1 k t_a t_F, oqF2 k t_a t_F, oqF3 k t_a t_F, oqF4 k t_a t_F, oqF5 k t_a t_F, oqF6 k t_a t_F] s.heap.size = A at hD ⊢
  have hA : ∀ q : Nat, s.heap.size ≤ q → A q := fun q h => by rw [← hAe]; exact Or.inr h
  have hS : va_S A s.heap s.heap [] := va_S.rf
  have hl := lv_entry ([.ref t, .int (nI j), .int (nI j2)]) (n := 7) (Nat.le_of_ble_eq_true rfl)
  rw [lg_entry_eq]
  generalize (lg_sl ([.ref t, .int (nI j), .int (nI j2)]) ++ List.replicate (7 - (lg_sl ([.ref t, .int (nI j), .int (nI j2)])).length) Slot.unset).toArray = ls at hl ⊢
  have hl : lv_has ls 7 [(0, .ref t), (1, .int (nI j)), (2, .int (nI j2))] := hl
  have hP : va_P D vwCl [oqT t t_a t_N t_J, oqF0 k t_a t_F, oqF1 k t_a t_F, oqF2 k t_a t_F, oqF3 k t_a t_F, oqF4 k t_a t_F, oqF5 k t_a t_F, oqF6 k t_a t_F] s.heap := hP
  refine lv_iconst (v := 1) hx hb dX1_slyCut_0 hki_1 ?_
  refine lv_istore_n (lv' := [(3, .int 1), (0, .ref t), (1, .int (nI j)), (2, .int (nI j2))]) hx hb dX1_slyCut_1 rfl hl (Nat.le_of_ble_eq_true rfl) rfl (fun ls hl => ?_)
  refine lv_aload_n hx hb dX1_slyCut_2 rfl (lv_at hl 1 rfl) ?_
  refine lv_iload_n hx hb dX1_slyCut_3 rfl (lv_at hl 2 rfl) ?_
  refine lv_iload_n hx hb dX1_slyCut_4 rfl (lv_at hl 3 rfl) ?_
  refine lv_iconst (v := 1) hx hb dX1_slyCut_5 hki_1 ?_
  refine hs_ciM (va_runS (As := [.ref t, .int (nI j), .int (nI j2), .int 1]) (rest := []) ⟨hx, hb, hml, hown, hts⟩ (g_leftOver l D k _ t t_a t_N t_J t_F j j2 1 (by first | assumption | exact ⟨by first | omega | (dsimp; omega), by first | omega | (dsimp; omega), ⟨by first | omega | (dsimp; omega), by first | omega | (dsimp; omega)⟩, by first | omega | (dsimp; omega), by first | omega | (dsimp; omega)⟩) (by omega) (by omega)) (va_cwS 4 hts gX1_slyCut_X1_leftOver rfl rfl rfl hq_X1_leftOver ⟨Nat.le_of_ble_eq_true rfl, Nat.le_of_ble_eq_true rfl⟩) (hs_preS hK hN (hs_subP (w := [_, _, _, _, _, _, _, _]) hP [0, 1, 2, 3, 4, 5, 6, 7] rfl) (hD.sub (ws' := [_, _, _, _, _, _, _, _]) [0, 1, 2, 3, 4, 5, 6, 7] (hs_upnd rfl) rfl)) rfl rfl hl.1 rfl (lv_room (Nat.le_of_ble_eq_true rfl)) dX1_slyCut_6 ⟨Nat.le_of_ble_eq_true rfl, Nat.le_of_ble_eq_true rfl⟩) hP hD hS hA [false, false, false, false, false, false, false, false] [] [_, _, _, _, _, _, _, _] rfl [0, 1, 2, 3, 4, 5, 6, 7] rfl [0, 1, 2, 3, 4, 5, 6, 7] (fun u_3 => [_, _, _, _, _, _, _, _]) (fun _ => rfl) (hs_upnd rfl) [false, false, false, false, false, false, false, false] (fun u_3 => [_, _, _, _, _, _, _, _]) (fun _ => rfl) (fun r_1 u_3 H locs hw_2 hP hD hS => ?_)
  refine lv_istore (lv' := [(4, .int r_1), (3, .int 1), (0, .ref t), (1, .int (nI j)), (2, .int (nI j2))]) hx hb dX1_slyCut_9 hl (Nat.le_of_ble_eq_true rfl) rfl (fun ls hl => ?_)
  refine lv_iconst (v := 2) hx hb dX1_slyCut_11 hki_2 ?_
  refine lv_istore (lv' := [(5, .int 2), (4, .int r_1), (3, .int 1), (0, .ref t), (1, .int (nI j)), (2, .int (nI j2))]) hx hb dX1_slyCut_12 hl (Nat.le_of_ble_eq_true rfl) rfl (fun ls hl => ?_)
  refine hs_while (σ := Int32 × Int32 × Nat) (fun x => x.2.2 ≤ t_N 0 + 2) (fun x => t_N 0 + 2 - x.2.2) (fun x => [oqT t t_a t_N t_J, oqF0 k t_a t_F, oqF1 k t_a t_F, oqF2 k t_a t_F, oqF3 k t_a t_F, oqF4 k t_a t_F, oqF5 k t_a t_F, oqF6 k t_a t_F]) (fun x => [(5, .int (nI (x.2.2))), (4, .int (x.2.1)), (3, .int (x.1)), (0, .ref t), (1, .int (nI j)), (2, .int (nI j2))]) ?_ (1, r_1, 2) ?_ hP hD hS hl
  · intro x hI ih14 H locs ls hP hD hS hl
    obtain ⟨best, most, kk⟩ := x
    try dsimp only at hI
    have hP : va_P D vwCl [_, _, _, _, _, _, _, _] H := hP
    have hD : va_D A [_, _, _, _, _, _, _, _] := hD
    have hl : lv_has ls 7 [(5, .int (nI kk)), (4, .int most), (3, .int best), (0, .ref t), (1, .int (nI j)), (2, .int (nI j2))] := hl
    refine lv_iload hx hb dX1_slyCut_14 (lv_at hl 0 rfl) ?_
    refine lv_aload_n hx hb dX1_slyCut_16 rfl (lv_at hl 3 rfl) ?_
    refine va_get (D := D) (ci := 5) (v := .int (nI (t_N 0))) (C := RX6) (T := TX6) (N := 15) hx hb hts hiX6 hown hK hP 0 rfl rfl 7 (Nat.le_of_ble_eq_true rfl) fl24 (fun _ h9 => h9) rfl dX1_slyCut_17 ?_
    refine lv_icmp_ge (tgt := 53) hx hb dX1_slyCut_20 rfl (fun c_4 => ?_) (fun c_4 => ?_)
    · have nc_4 : (t_N 0) ≤ kk := (nI_leI (a := (t_N 0)) (b := kk) (by omega) (by omega)).mp c_4
      refine lv_iload_n hx hb dX1_slyCut_53 rfl (lv_at hl 2 rfl) ?_
      exact hs_iret hx hb hr hlocks hK hP hD hS () [0, 1, 2, 3, 4, 5, 6, 7] rfl (hs_upnd rfl) dX1_slyCut_54 (trivial)
    · have nc_4 : ¬ (t_N 0) ≤ kk := fun hq9 => c_4 ((nI_leI (a := (t_N 0)) (b := kk) (by omega) (by omega)).mpr hq9)
      refine lv_aload_n hx hb dX1_slyCut_23 rfl (lv_at hl 3 rfl) ?_
      refine lv_iload_n hx hb dX1_slyCut_24 rfl (lv_at hl 4 rfl) ?_
      refine lv_iload_n hx hb dX1_slyCut_25 rfl (lv_at hl 5 rfl) ?_
      refine lv_iload hx hb dX1_slyCut_26 (lv_at hl 0 rfl) ?_
      refine hs_ciM (va_runS (As := [.ref t, .int (nI j), .int (nI j2), .int (nI kk)]) (rest := []) ⟨hx, hb, hml, hown, hts⟩ (g_leftOver l D k _ t t_a t_N t_J t_F j j2 (nI kk) (by first | assumption | exact ⟨by first | omega | (dsimp; omega), by first | omega | (dsimp; omega), ⟨by first | omega | (dsimp; omega), by first | omega | (dsimp; omega)⟩, by first | omega | (dsimp; omega), by first | omega | (dsimp; omega)⟩) (by omega) (by omega)) (va_cwS 4 hts gX1_slyCut_X1_leftOver rfl rfl rfl hq_X1_leftOver ⟨Nat.le_of_ble_eq_true rfl, Nat.le_of_ble_eq_true rfl⟩) (hs_preS hK hN (hs_subP (w := [_, _, _, _, _, _, _, _]) hP [0, 1, 2, 3, 4, 5, 6, 7] rfl) (hD.sub (ws' := [_, _, _, _, _, _, _, _]) [0, 1, 2, 3, 4, 5, 6, 7] (hs_upnd rfl) rfl)) rfl rfl hl.1 rfl (lv_room (Nat.le_of_ble_eq_true rfl)) dX1_slyCut_28 ⟨Nat.le_of_ble_eq_true rfl, Nat.le_of_ble_eq_true rfl⟩) hP hD hS hA [false, false, false, false, false, false, false, false] [] [_, _, _, _, _, _, _, _] rfl [0, 1, 2, 3, 4, 5, 6, 7] rfl [0, 1, 2, 3, 4, 5, 6, 7] (fun u_7 => [_, _, _, _, _, _, _, _]) (fun _ => rfl) (hs_upnd rfl) [false, false, false, false, false, false, false, false] (fun u_7 => [_, _, _, _, _, _, _, _]) (fun _ => rfl) (fun r_5 u_7 H locs hw_6 hP hD hS => ?_)
      refine lv_istore (lv' := [(6, .int r_5), (5, .int (nI kk)), (4, .int most), (3, .int best), (0, .ref t), (1, .int (nI j)), (2, .int (nI j2))]) hx hb dX1_slyCut_31 hl (Nat.le_of_ble_eq_true rfl) rfl (fun ls hl => ?_)
      refine lv_iload hx hb dX1_slyCut_33 (lv_at hl 0 rfl) ?_
      refine lv_iload hx hb dX1_slyCut_35 (lv_at hl 2 rfl) ?_
      refine lv_icmp_le (tgt := 47) hx hb dX1_slyCut_37 rfl (fun c_8 => ?_) (fun c_8 => ?_)
      · refine lv_iinc (v := nI (kk + 1)) (lv' := [(5, .int (nI (kk + 1))), (6, .int r_5), (4, .int most), (3, .int best), (0, .ref t), (1, .int (nI j)), (2, .int (nI j2))]) hx hb dX1_slyCut_47 hl (k := 1) rfl (nI_add (kk) 1) (Nat.le_of_ble_eq_true rfl) rfl (fun ls hl => ?_)
        refine lv_goto (tgt := 14) hx hb dX1_slyCut_50 rfl ?_
        exact ih14 (best, most, kk + 1) (by (try dsimp only); first | omega | (refine ⟨?_, ?_⟩ <;> first | omega | assumption)) (by (try dsimp only); omega) _ _ _ hP hD hS (lv_sub hl [0, 2, 3, 4, 5, 6] rfl)
      · refine lv_iload hx hb dX1_slyCut_40 (lv_at hl 1 rfl) ?_
        refine lv_istore_n (lv' := [(3, .int (nI kk)), (6, .int r_5), (5, .int (nI kk)), (4, .int most), (0, .ref t), (1, .int (nI j)), (2, .int (nI j2))]) hx hb dX1_slyCut_42 rfl hl (Nat.le_of_ble_eq_true rfl) rfl (fun ls hl => ?_)
        refine lv_iload hx hb dX1_slyCut_43 (lv_at hl 1 rfl) ?_
        refine lv_istore (lv' := [(4, .int r_5), (3, .int (nI kk)), (6, .int r_5), (5, .int (nI kk)), (0, .ref t), (1, .int (nI j)), (2, .int (nI j2))]) hx hb dX1_slyCut_45 hl (Nat.le_of_ble_eq_true rfl) rfl (fun ls hl => ?_)
        refine lv_iinc (v := nI (kk + 1)) (lv' := [(5, .int (nI (kk + 1))), (4, .int r_5), (3, .int (nI kk)), (6, .int r_5), (0, .ref t), (1, .int (nI j)), (2, .int (nI j2))]) hx hb dX1_slyCut_47 hl (k := 3) rfl (nI_add (kk) 1) (Nat.le_of_ble_eq_true rfl) rfl (fun ls hl => ?_)
        refine lv_goto (tgt := 14) hx hb dX1_slyCut_50 rfl ?_
        exact ih14 (nI kk, r_5, kk + 1) (by (try dsimp only); first | omega | (refine ⟨?_, ?_⟩ <;> first | omega | assumption)) (by (try dsimp only); omega) _ _ _ hP hD hS (lv_sub hl [0, 1, 2, 4, 5, 6] rfl)
  · (try dsimp only); first | omega | (refine ⟨?_, ?_⟩ <;> first | omega | assumption)

set_option maxHeartbeats 4000000 in
set_option maxRecDepth 100000 in
theorem g_isJustToAll (l : Launch) (D : va_G) (k : Nat → ClassId) (sz : Nat) (t : Nat) (t_a : Nat → Nat) (t_N : Nat → Nat) (t_J : Nat → Int32) (t_F : Nat → Nat → Int32) (pe : Int32) (cells : Int32) (hN0 : thN t_N) : MI l yX1_isJustToAll wsX1_isJustToAll ({ frames := 2, cells := 0, slots := 0, locals := 50 }) D k [.ref t, .int pe, .int cells] [oqT t t_a t_N t_J, oqF0 k t_a t_F, oqF1 k t_a t_F, oqF2 k t_a t_F, oqF3 k t_a t_F, oqF4 k t_a t_F, oqF5 k t_a t_F, oqF6 k t_a t_F] sz (fun (r : Int32) (u : Unit) => True) (fun (u : Unit) => [oqT t t_a t_N t_J, oqF0 k t_a t_F, oqF1 k t_a t_F, oqF2 k t_a t_F, oqF3 k t_a t_F, oqF4 k t_a t_F, oqF5 k t_a t_F, oqF6 k t_a t_F]) := by
  refine Met.ofW (cc := cX1_isJustToAll) (maxL := 4) (ret := (some .boolean)) hpn_X1 rfl ?_
  intro p e s m args below meth c s₁ B hml hv
  obtain ⟨rfl, hsz, hP, hK, hD0, hN⟩ := hv
  have hx := B.exec
  have hb := B.bytes
  have hr := B.returns
  have hlocks := B.notSynchronized
  have hts := atoms_spec (ws := wsX1_isJustToAll) B.pre
  have hown := findClass_of_methodNamed B.named
  have hown : s.vm.findClass RX1 = some m.cls := hown
  have hiX6 : ∀ w ∈ u_ws RX6 TX6 15, w ∈ wsX1_isJustToAll := fun w9 hw9 => List.mem_cons_of_mem _ (igX6 w9 hw9)
  have fl58 := hts (.fieldLink RX1 58 "HalfScales$Thing" "peopleCount" "I") (List.mem_cons_of_mem _ (hs_inG 1 58 rfl rfl))
  have fl61 := hts (.fieldLink RX1 61 "HalfScales$Thing" "slip" "I") (List.mem_cons_of_mem _ (hs_inG 1 62 rfl rfl))
  have mm19 := hts (.methodLink RX1 19 Lib.Math.abs.name) (List.mem_cons_of_mem _ (hs_inG 3 99 rfl rfl))
  have msabs := hts (.static Lib.Math.abs.name) (List.mem_cons_of_mem _ (hs_inG 3 69 rfl rfl))
  have mi := hts (.initialized "java/lang/Math") (List.mem_cons_of_mem _ (hs_inG 1 14 rfl rfl))
  have mcabs := hts (.code Lib.Math.abs.name Lib.Math.abs.code 1 (some .int)) (List.mem_cons_of_mem _ (hs_inG 3 70 rfl rfl))
  obtain ⟨I0, I1, ⟨I2, I2b⟩, I3, I4⟩ := hN0
  subst hsz
  have hD := hD0.self (sz := s.heap.size)
  generalize hAe : va_A [oqT t t_a t_N t_J, oqF0 k t_a t_F, oqF1 k t_a t_F, oqF2 k t_a t_F, oqF3 k t_a t_F, oqF4 k t_a t_F, oqF5 k t_a t_F, oqF6 k t_a t_F] s.heap.size = A at hD ⊢
  have hA : ∀ q : Nat, s.heap.size ≤ q → A q := fun q h => by rw [← hAe]; exact Or.inr h
  have hS : va_S A s.heap s.heap [] := va_S.rf
  have hl := lv_entry ([.ref t, .int pe, .int cells]) (n := 4) (Nat.le_of_ble_eq_true rfl)
  rw [lg_entry_eq]
  generalize (lg_sl ([.ref t, .int pe, .int cells]) ++ List.replicate (4 - (lg_sl ([.ref t, .int pe, .int cells])).length) Slot.unset).toArray = ls at hl ⊢
  have hl : lv_has ls 4 [(0, .ref t), (1, .int pe), (2, .int cells)] := hl
  have hP : va_P D vwCl [oqT t t_a t_N t_J, oqF0 k t_a t_F, oqF1 k t_a t_F, oqF2 k t_a t_F, oqF3 k t_a t_F, oqF4 k t_a t_F, oqF5 k t_a t_F, oqF6 k t_a t_F] s.heap := hP
  refine lv_iconst (v := 0) hx hb dX1_isJustToAll_0 hki_0 ?_
  refine lv_istore_n (lv' := [(3, .int 0), (0, .ref t), (1, .int pe), (2, .int cells)]) hx hb dX1_isJustToAll_1 rfl hl (Nat.le_of_ble_eq_true rfl) rfl (fun ls hl => ?_)
  refine hs_while (σ := Nat) (fun x => x ≤ t_N 1) (fun x => t_N 1 - x) (fun x => [oqT t t_a t_N t_J, oqF0 k t_a t_F, oqF1 k t_a t_F, oqF2 k t_a t_F, oqF3 k t_a t_F, oqF4 k t_a t_F, oqF5 k t_a t_F, oqF6 k t_a t_F]) (fun x => [(3, .int (nI (x))), (0, .ref t), (1, .int pe), (2, .int cells)]) ?_ (0) ?_ hP hD hS hl
  · intro x hI ih2 H locs ls hP hD hS hl
    obtain ⟨q, rfl⟩ : ∃ z, z = x := ⟨_, rfl⟩
    try dsimp only at hI
    have hP : va_P D vwCl [oqT t t_a t_N t_J, oqF0 k t_a t_F, oqF1 k t_a t_F, oqF2 k t_a t_F, oqF3 k t_a t_F, oqF4 k t_a t_F, oqF5 k t_a t_F, oqF6 k t_a t_F] H := hP
    have hD : va_D A [oqT t t_a t_N t_J, oqF0 k t_a t_F, oqF1 k t_a t_F, oqF2 k t_a t_F, oqF3 k t_a t_F, oqF4 k t_a t_F, oqF5 k t_a t_F, oqF6 k t_a t_F] := hD
    have hl : lv_has ls 4 [(3, .int (nI q)), (0, .ref t), (1, .int pe), (2, .int cells)] := hl
    refine lv_iload_n hx hb dX1_isJustToAll_2 rfl (lv_at hl 0 rfl) ?_
    refine lv_aload_n hx hb dX1_isJustToAll_3 rfl (lv_at hl 1 rfl) ?_
    refine va_get (D := D) (ci := 5) (v := .int (nI (t_N 1))) (C := RX6) (T := TX6) (N := 15) hx hb hts hiX6 hown hK hP 0 rfl rfl 8 (Nat.le_of_ble_eq_true rfl) fl58 (fun _ h9 => h9) rfl dX1_isJustToAll_4 ?_
    refine lv_icmp_ge (tgt := 43) hx hb dX1_isJustToAll_7 rfl (fun c_1 => ?_) (fun c_1 => ?_)
    · have nc_1 : (t_N 1) ≤ q := (nI_leI (a := (t_N 1)) (b := q) (by omega) (by omega)).mp c_1
      refine lv_iconst (v := 1) hx hb dX1_isJustToAll_43 hki_1 ?_
      exact hs_zret hx hb hr hlocks hK hP hD hS () [0, 1, 2, 3, 4, 5, 6, 7] rfl (hs_upnd rfl) dX1_isJustToAll_44 rfl (trivial)
    · have nc_1 : ¬ (t_N 1) ≤ q := fun hq9 => c_1 ((nI_leI (a := (t_N 1)) (b := q) (by omega) (by omega)).mpr hq9)
      refine lv_iload_n hx hb dX1_isJustToAll_10 rfl (lv_at hl 2 rfl) ?_
      refine lv_iload_n hx hb dX1_isJustToAll_11 rfl (lv_at hl 0 rfl) ?_
      refine lv_ishr hx hb dX1_isJustToAll_12 ?_
      refine lv_iconst (v := 1) hx hb dX1_isJustToAll_13 hki_1 ?_
      refine lv_iand hx hb dX1_isJustToAll_14 ?_
      refine lv_iconst (v := 1) hx hb dX1_isJustToAll_15 hki_1 ?_
      refine lv_icmp_ne (tgt := 37) hx hb dX1_isJustToAll_16 rfl (fun c_2 => ?_) (fun c_2 => ?_)
      · refine lv_iinc (v := nI (q + 1)) (lv' := [(3, .int (nI (q + 1))), (0, .ref t), (1, .int pe), (2, .int cells)]) hx hb dX1_isJustToAll_37 hl (k := 0) rfl (nI_add (q) 1) (Nat.le_of_ble_eq_true rfl) rfl (fun ls hl => ?_)
        refine lv_goto (tgt := 2) hx hb dX1_isJustToAll_40 rfl ?_
        exact ih2 (q + 1) (by (try dsimp only); first | omega | (refine ⟨?_, ?_⟩ <;> first | omega | assumption)) (by (try dsimp only); omega) _ _ _ hP hD hS (lv_sub hl [0, 1, 2, 3] rfl)
      · refine lv_aload_n hx hb dX1_isJustToAll_19 rfl (lv_at hl 1 rfl) ?_
        refine lv_iload_n hx hb dX1_isJustToAll_20 rfl (lv_at hl 0 rfl) ?_
        refine lv_iload_n hx hb dX1_isJustToAll_21 rfl (lv_at hl 3 rfl) ?_
        refine hs_ciM (va_runV (As := [.int (nI q), .int cells]) (rest := []) ⟨hx, hb, hml, hown, hts⟩ (g_lead l D k _ t t_a t_N t_J t_F q cells (by first | assumption | exact ⟨by first | omega | (dsimp; omega), by first | omega | (dsimp; omega), ⟨by first | omega | (dsimp; omega), by first | omega | (dsimp; omega)⟩, by first | omega | (dsimp; omega), by first | omega | (dsimp; omega)⟩) (by omega)) (cwV 2 hts gX1_isJustToAll_X6_lead rfl rfl rfl ⟨rfl, hq_X6_lead⟩ ⟨Nat.le_of_ble_eq_true rfl, Nat.le_of_ble_eq_true rfl⟩) (hs_preV hK hN (hs_subP (w := [_, _, _, _, _, _, _, _]) hP [0, 1, 2, 3, 4, 5, 6, 7] rfl) (hD.sub (ws' := [_, _, _, _, _, _, _, _]) [0, 1, 2, 3, 4, 5, 6, 7] (hs_upnd rfl) rfl) (ci := 5) (q0 := 0) rfl rfl) rfl rfl hl.1 rfl (lv_room (Nat.le_of_ble_eq_true rfl)) dX1_isJustToAll_22 ⟨Nat.le_of_ble_eq_true rfl, Nat.le_of_ble_eq_true rfl⟩) hP hD hS hA [false, false, false, false, false, false, false, false] [] [_, _, _, _, _, _, _, _] rfl [0, 1, 2, 3, 4, 5, 6, 7] rfl [0, 1, 2, 3, 4, 5, 6, 7] (fun u_5 => [_, _, _, _, _, _, _, _]) (fun _ => rfl) (hs_upnd rfl) [false, false, false, false, false, false, false, false] (fun u_5 => [_, _, _, _, _, _, _, _]) (fun _ => rfl) (fun r_3 u_5 H locs hw_4 hP hD hS => ?_)
        refine va_mabs hx hb (hml.trans hl.1.symm) hown mm19 msabs mi mcabs (Nat.le_of_ble_eq_true rfl) (Nat.le_of_ble_eq_true rfl) (Nat.zero_le _) (Nat.zero_le _) dX1_isJustToAll_25 ?_
        refine lv_aload_n hx hb dX1_isJustToAll_28 rfl (lv_at hl 1 rfl) ?_
        refine va_get (D := D) (ci := 5) (v := .int (t_J 0)) (C := RX6) (T := TX6) (N := 15) hx hb hts hiX6 hown hK hP 0 rfl rfl 9 (Nat.le_of_ble_eq_true rfl) fl61 (fun _ h9 => h9) rfl dX1_isJustToAll_29 ?_
        refine lv_icmp_le (tgt := 37) hx hb dX1_isJustToAll_32 rfl (fun c_6 => ?_) (fun c_6 => ?_)
        · refine lv_iinc (v := nI (q + 1)) (lv' := [(3, .int (nI (q + 1))), (0, .ref t), (1, .int pe), (2, .int cells)]) hx hb dX1_isJustToAll_37 hl (k := 0) rfl (nI_add (q) 1) (Nat.le_of_ble_eq_true rfl) rfl (fun ls hl => ?_)
          refine lv_goto (tgt := 2) hx hb dX1_isJustToAll_40 rfl ?_
          exact ih2 (q + 1) (by (try dsimp only); first | omega | (refine ⟨?_, ?_⟩ <;> first | omega | assumption)) (by (try dsimp only); omega) _ _ _ hP hD hS (lv_sub hl [0, 1, 2, 3] rfl)
        · refine lv_iconst (v := 0) hx hb dX1_isJustToAll_35 hki_0 ?_
          exact hs_zret hx hb hr hlocks hK hP hD hS () [0, 1, 2, 3, 4, 5, 6, 7] rfl (hs_upnd rfl) dX1_isJustToAll_36 rfl (trivial)
  · (try dsimp only); first | omega | (refine ⟨?_, ?_⟩ <;> first | omega | assumption)

set_option maxHeartbeats 4000000 in
set_option maxRecDepth 100000 in
theorem g_fewestCuts (l : Launch) (D : va_G) (k : Nat → ClassId) (sz : Nat) (t : Nat) (t_a : Nat → Nat) (t_N : Nat → Nat) (t_J : Nat → Int32) (t_F : Nat → Nat → Int32) (pe : Int32) (hN0 : thN t_N) : MI l yX1_fewestCuts wsX1_fewestCuts ({ frames := 3, cells := 0, slots := 0, locals := 73 }) D k [.ref t, .int pe] [oqT t t_a t_N t_J, oqF0 k t_a t_F, oqF1 k t_a t_F, oqF2 k t_a t_F, oqF3 k t_a t_F, oqF4 k t_a t_F, oqF5 k t_a t_F, oqF6 k t_a t_F] sz (fun (r : Int32) (u : Unit) => True) (fun (u : Unit) => [oqT t t_a t_N t_J, oqF0 k t_a t_F, oqF1 k t_a t_F, oqF2 k t_a t_F, oqF3 k t_a t_F, oqF4 k t_a t_F, oqF5 k t_a t_F, oqF6 k t_a t_F]) := by
  refine Met.ofW (cc := cX1_fewestCuts) (maxL := 6) (ret := (some .int)) hpn_X1 rfl ?_
  intro p e s m args below meth c s₁ B hml hv
  obtain ⟨rfl, hsz, hP, hK, hD0, hN⟩ := hv
  have hx := B.exec
  have hb := B.bytes
  have hr := B.returns
  have hlocks := B.notSynchronized
  have hts := atoms_spec (ws := wsX1_fewestCuts) B.pre
  have hown := findClass_of_methodNamed B.named
  have hown : s.vm.findClass RX1 = some m.cls := hown
  have hN1 := hN0
  obtain ⟨I0, I1, ⟨I2, I2b⟩, I3, I4⟩ := hN0
  have hpw : 2 ^ t_N 0 ≤ 256 := Nat.le_trans (Nat.pow_le_pow_right (n := 2) (by decide) I0) (by decide)
  have hp1 : 1 ≤ 2 ^ t_N 0 := Nat.one_le_two_pow
  subst hsz
  have hD := hD0.self (sz := s.heap.size)
  generalize hAe : va_A [oqT t t_a t_N t_J, oqF0 k t_a t_F, oqF1 k t_a t_F, oqF2 k t_a t_F, oqF3 k t_a t_F, oqF4 k t_a t_F, oqF5 k t_a t_F, oqF6 k t_a t_F] s.heap.size = A at hD ⊢
  have hA : ∀ q : Nat, s.heap.size ≤ q → A q := fun q h => by rw [← hAe]; exact Or.inr h
  have hS : va_S A s.heap s.heap [] := va_S.rf
  have hl := lv_entry ([.ref t, .int pe]) (n := 6) (Nat.le_of_ble_eq_true rfl)
  rw [lg_entry_eq]
  generalize (lg_sl ([.ref t, .int pe]) ++ List.replicate (6 - (lg_sl ([.ref t, .int pe])).length) Slot.unset).toArray = ls at hl ⊢
  have hl : lv_has ls 6 [(0, .ref t), (1, .int pe)] := hl
  have hP : va_P D vwCl [oqT t t_a t_N t_J, oqF0 k t_a t_F, oqF1 k t_a t_F, oqF2 k t_a t_F, oqF3 k t_a t_F, oqF4 k t_a t_F, oqF5 k t_a t_F, oqF6 k t_a t_F] s.heap := hP
  refine lv_bipush (v := (-4)) hx hb dX1_fewestCuts_0 hkb_m4 ?_
  refine lv_istore_n (lv' := [(2, .int (-4)), (0, .ref t), (1, .int pe)]) hx hb dX1_fewestCuts_2 rfl hl (Nat.le_of_ble_eq_true rfl) rfl (fun ls hl => ?_)
  refine lv_bipush (v := 8) hx hb dX1_fewestCuts_3 hkb_8 ?_
  refine lv_istore_n (lv' := [(3, .int 8), (2, .int (-4)), (0, .ref t), (1, .int pe)]) hx hb dX1_fewestCuts_5 rfl hl (Nat.le_of_ble_eq_true rfl) rfl (fun ls hl => ?_)
  refine lv_iconst (v := 0) hx hb dX1_fewestCuts_6 hki_0 ?_
  refine lv_istore (lv' := [(4, .int 0), (3, .int 8), (2, .int (-4)), (0, .ref t), (1, .int pe)]) hx hb dX1_fewestCuts_7 hl (Nat.le_of_ble_eq_true rfl) rfl (fun ls hl => ?_)
  refine hs_while (σ := Int32 × Int32 × Nat) (fun x => x.2.2 ≤ 2 ^ t_N 0) (fun x => 2 ^ t_N 0 - x.2.2) (fun x => [oqT t t_a t_N t_J, oqF0 k t_a t_F, oqF1 k t_a t_F, oqF2 k t_a t_F, oqF3 k t_a t_F, oqF4 k t_a t_F, oqF5 k t_a t_F, oqF6 k t_a t_F]) (fun x => [(4, .int (nI (x.2.2))), (3, .int (x.2.1)), (2, .int (x.1)), (0, .ref t), (1, .int pe)]) ?_ ((-4), 8, 0) ?_ hP hD hS hl
  · intro x hI ih9 H locs ls hP hD hS hl
    obtain ⟨best, few, ce⟩ := x
    try dsimp only at hI
    have hP : va_P D vwCl [oqT t t_a t_N t_J, oqF0 k t_a t_F, oqF1 k t_a t_F, oqF2 k t_a t_F, oqF3 k t_a t_F, oqF4 k t_a t_F, oqF5 k t_a t_F, oqF6 k t_a t_F] H := hP
    have hD : va_D A [oqT t t_a t_N t_J, oqF0 k t_a t_F, oqF1 k t_a t_F, oqF2 k t_a t_F, oqF3 k t_a t_F, oqF4 k t_a t_F, oqF5 k t_a t_F, oqF6 k t_a t_F] := hD
    have hl : lv_has ls 6 [(4, .int (nI ce)), (3, .int few), (2, .int best), (0, .ref t), (1, .int pe)] := hl
    refine lv_iload hx hb dX1_fewestCuts_9 (lv_at hl 0 rfl) ?_
    refine lv_aload_n hx hb dX1_fewestCuts_11 rfl (lv_at hl 3 rfl) ?_
    refine hs_ciM (va_runV (As := []) (rest := [.int (nI ce)]) ⟨hx, hb, hml, hown, hts⟩ (g_allCells l D k _ t t_a t_N t_J (by first | assumption | exact ⟨by first | omega | (dsimp; omega), by first | omega | (dsimp; omega), ⟨by first | omega | (dsimp; omega), by first | omega | (dsimp; omega)⟩, by first | omega | (dsimp; omega), by first | omega | (dsimp; omega)⟩)) (cwV 0 hts gX1_fewestCuts_X6_allCells rfl rfl rfl ⟨rfl, hq_X6_allCells⟩ ⟨Nat.le_of_ble_eq_true rfl, Nat.le_of_ble_eq_true rfl⟩) (hs_preV hK hN (hs_subP (w := [_]) hP [0] rfl) (hD.sub (ws' := [_]) [0] (hs_upnd rfl) rfl) (ci := 5) (q0 := 0) rfl rfl) rfl rfl hl.1 rfl (lv_room (Nat.le_of_ble_eq_true rfl)) dX1_fewestCuts_12 ⟨Nat.le_of_ble_eq_true rfl, Nat.le_of_ble_eq_true rfl⟩) hP hD hS hA [false, true, true, true, true, true, true, true] [_, _, _, _, _, _, _] [_] rfl [0] rfl [0] (fun u_3 => [_]) (fun _ => rfl) (hs_upnd rfl) [false, true, true, true, true, true, true, true] (fun u_3 => [_, _, _, _, _, _, _, _]) (fun _ => rfl) (fun r_1 u_3 H locs hw_2 hP hD hS => ?_)
    refine hs_topi (nI (2 ^ (t_N 0) - 1)) hw_2 ?_
    refine lv_icmp_gt (tgt := 54) hx hb dX1_fewestCuts_15 rfl (fun c_4 => ?_) (fun c_4 => ?_)
    · have nc_4 : (2 ^ (t_N 0) - 1) < ce := (nI_ltI (a := (2 ^ (t_N 0) - 1)) (b := ce) (by omega) (by omega)).mp c_4
      refine lv_iload_n hx hb dX1_fewestCuts_54 rfl (lv_at hl 2 rfl) ?_
      exact hs_iret hx hb hr hlocks hK hP hD hS () [0, 1, 2, 3, 4, 5, 6, 7] rfl (hs_upnd rfl) dX1_fewestCuts_55 (trivial)
    · have nc_4 : ¬ (2 ^ (t_N 0) - 1) < ce := fun hq9 => c_4 ((nI_ltI (a := (2 ^ (t_N 0) - 1)) (b := ce) (by omega) (by omega)).mpr hq9)
      refine lv_aload_n hx hb dX1_fewestCuts_18 rfl (lv_at hl 3 rfl) ?_
      refine lv_iload hx hb dX1_fewestCuts_19 (lv_at hl 0 rfl) ?_
      refine hs_ciM (va_runS (As := [.ref t, .int (nI ce)]) (rest := []) ⟨hx, hb, hml, hown, hts⟩ (g_cutsOf l D k _ t t_a t_N t_J (nI ce)) (va_cwS 2 hts gX1_fewestCuts_X1_cutsOf rfl rfl rfl hq_X1_cutsOf ⟨Nat.le_of_ble_eq_true rfl, Nat.le_of_ble_eq_true rfl⟩) (hs_preS hK hN (hs_subP (w := [_]) hP [0] rfl) (hD.sub (ws' := [_]) [0] (hs_upnd rfl) rfl)) rfl rfl hl.1 rfl (lv_room (Nat.le_of_ble_eq_true rfl)) dX1_fewestCuts_21 ⟨Nat.le_of_ble_eq_true rfl, Nat.le_of_ble_eq_true rfl⟩) hP hD hS hA [false, true, true, true, true, true, true, true] [_, _, _, _, _, _, _] [_] rfl [0] rfl [0] (fun u_7 => [_]) (fun _ => rfl) (hs_upnd rfl) [false, true, true, true, true, true, true, true] (fun u_7 => [_, _, _, _, _, _, _, _]) (fun _ => rfl) (fun r_5 u_7 H locs hw_6 hP hD hS => ?_)
      refine lv_istore (lv' := [(5, .int r_5), (4, .int (nI ce)), (3, .int few), (2, .int best), (0, .ref t), (1, .int pe)]) hx hb dX1_fewestCuts_24 hl (Nat.le_of_ble_eq_true rfl) rfl (fun ls hl => ?_)
      refine lv_iload hx hb dX1_fewestCuts_26 (lv_at hl 0 rfl) ?_
      refine lv_iload_n hx hb dX1_fewestCuts_28 rfl (lv_at hl 2 rfl) ?_
      refine lv_icmp_ge (tgt := 48) hx hb dX1_fewestCuts_29 rfl (fun c_8 => ?_) (fun c_8 => ?_)
      · refine lv_iinc (v := nI (ce + 1)) (lv' := [(4, .int (nI (ce + 1))), (5, .int r_5), (3, .int few), (2, .int best), (0, .ref t), (1, .int pe)]) hx hb dX1_fewestCuts_48 hl (k := 1) rfl (nI_add (ce) 1) (Nat.le_of_ble_eq_true rfl) rfl (fun ls hl => ?_)
        refine lv_goto (tgt := 9) hx hb dX1_fewestCuts_51 rfl ?_
        exact ih9 (best, few, ce + 1) (by (try dsimp only); first | omega | (refine ⟨?_, ?_⟩ <;> first | omega | assumption)) (by (try dsimp only); omega) _ _ _ hP hD hS (lv_sub hl [0, 2, 3, 4, 5] rfl)
      · refine lv_aload_n hx hb dX1_fewestCuts_32 rfl (lv_at hl 4 rfl) ?_
        refine lv_iload_n hx hb dX1_fewestCuts_33 rfl (lv_at hl 5 rfl) ?_
        refine lv_iload hx hb dX1_fewestCuts_34 (lv_at hl 1 rfl) ?_
        refine hs_ciM (va_runS (As := [.ref t, .int pe, .int (nI ce)]) (rest := []) ⟨hx, hb, hml, hown, hts⟩ (g_isJustToAll l D k _ t t_a t_N t_J t_F pe (nI ce) (by first | assumption | exact ⟨by first | omega | (dsimp; omega), by first | omega | (dsimp; omega), ⟨by first | omega | (dsimp; omega), by first | omega | (dsimp; omega)⟩, by first | omega | (dsimp; omega), by first | omega | (dsimp; omega)⟩)) (va_cwS 3 hts gX1_fewestCuts_X1_isJustToAll rfl rfl rfl hq_X1_isJustToAll ⟨Nat.le_of_ble_eq_true rfl, Nat.le_of_ble_eq_true rfl⟩) (hs_preS hK hN (hs_subP (w := [_, _, _, _, _, _, _, _]) hP [0, 1, 2, 3, 4, 5, 6, 7] rfl) (hD.sub (ws' := [_, _, _, _, _, _, _, _]) [0, 1, 2, 3, 4, 5, 6, 7] (hs_upnd rfl) rfl)) rfl rfl hl.1 rfl (lv_room (Nat.le_of_ble_eq_true rfl)) dX1_fewestCuts_36 ⟨Nat.le_of_ble_eq_true rfl, Nat.le_of_ble_eq_true rfl⟩) hP hD hS hA [false, false, false, false, false, false, false, false] [] [_, _, _, _, _, _, _, _] rfl [0, 1, 2, 3, 4, 5, 6, 7] rfl [0, 1, 2, 3, 4, 5, 6, 7] (fun u_11 => [_, _, _, _, _, _, _, _]) (fun _ => rfl) (hs_upnd rfl) [false, false, false, false, false, false, false, false] (fun u_11 => [_, _, _, _, _, _, _, _]) (fun _ => rfl) (fun r_9 u_11 H locs hw_10 hP hD hS => ?_)
        refine lv_if_eq (tgt := 48) hx hb dX1_fewestCuts_39 rfl (fun c_12 => ?_) (fun c_12 => ?_)
        · refine lv_iinc (v := nI (ce + 1)) (lv' := [(4, .int (nI (ce + 1))), (5, .int r_5), (3, .int few), (2, .int best), (0, .ref t), (1, .int pe)]) hx hb dX1_fewestCuts_48 hl (k := 1) rfl (nI_add (ce) 1) (Nat.le_of_ble_eq_true rfl) rfl (fun ls hl => ?_)
          refine lv_goto (tgt := 9) hx hb dX1_fewestCuts_51 rfl ?_
          exact ih9 (best, few, ce + 1) (by (try dsimp only); first | omega | (refine ⟨?_, ?_⟩ <;> first | omega | assumption)) (by (try dsimp only); omega) _ _ _ hP hD hS (lv_sub hl [0, 2, 3, 4, 5] rfl)
        · refine lv_iload hx hb dX1_fewestCuts_42 (lv_at hl 1 rfl) ?_
          refine lv_istore_n (lv' := [(2, .int (nI ce)), (5, .int r_5), (4, .int (nI ce)), (3, .int few), (0, .ref t), (1, .int pe)]) hx hb dX1_fewestCuts_44 rfl hl (Nat.le_of_ble_eq_true rfl) rfl (fun ls hl => ?_)
          refine lv_iload hx hb dX1_fewestCuts_45 (lv_at hl 1 rfl) ?_
          refine lv_istore_n (lv' := [(3, .int r_5), (2, .int (nI ce)), (5, .int r_5), (4, .int (nI ce)), (0, .ref t), (1, .int pe)]) hx hb dX1_fewestCuts_47 rfl hl (Nat.le_of_ble_eq_true rfl) rfl (fun ls hl => ?_)
          refine lv_iinc (v := nI (ce + 1)) (lv' := [(4, .int (nI (ce + 1))), (3, .int r_5), (2, .int (nI ce)), (5, .int r_5), (0, .ref t), (1, .int pe)]) hx hb dX1_fewestCuts_48 hl (k := 3) rfl (nI_add (ce) 1) (Nat.le_of_ble_eq_true rfl) rfl (fun ls hl => ?_)
          refine lv_goto (tgt := 9) hx hb dX1_fewestCuts_51 rfl ?_
          exact ih9 (nI ce, r_5, ce + 1) (by (try dsimp only); first | omega | (refine ⟨?_, ?_⟩ <;> first | omega | assumption)) (by (try dsimp only); omega) _ _ _ hP hD hS (lv_sub hl [0, 1, 2, 4, 5] rfl)
  · (try dsimp only); first | omega | (refine ⟨?_, ?_⟩ <;> first | omega | assumption)
