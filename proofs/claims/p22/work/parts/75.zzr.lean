set_option maxHeartbeats 4000000 in
set_option maxRecDepth 100000 in
theorem gf_honestCut (l : Launch) (D : va_G) (k : Nat → ClassId) (sz : Nat) (t : Nat) (t_a : Nat → Nat) (t_N : Nat → Nat) (t_J : Nat → Int32) (t_F : Nat → Nat → Int32) (j : Nat) (hN0 : thN t_N) (hj : j < 4) : MI l yX1_honestCut wsX1_honestCut ({ frames := 2, cells := 0, slots := 0, locals := 50 }) D k [.ref t, .int (nI j)] [oqT t t_a t_N t_J, oqF0 k t_a t_F, oqF1 k t_a t_F, oqF2 k t_a t_F, oqF3 k t_a t_F, oqF4 k t_a t_F, oqF5 k t_a t_F, oqF6 k t_a t_F] sz (fun (r : Int32) (u : Unit) => r = (A_mnC (A_hoC t_N t_F j) (t_N 0 - 2)).1) (fun (u : Unit) => [oqT t t_a t_N t_J, oqF0 k t_a t_F, oqF1 k t_a t_F, oqF2 k t_a t_F, oqF3 k t_a t_F, oqF4 k t_a t_F, oqF5 k t_a t_F, oqF6 k t_a t_F]) := by
  refine Met.ofW (cc := cX1_honestCut) (maxL := 6) (ret := (some .int)) hpn_X1 rfl ?_
  intro p e s m args below meth c s₁ B hml hv
  obtain ⟨rfl, hsz, hP, hK, hD0, hN⟩ := hv
  have hx := B.exec
  have hb := B.bytes
  have hr := B.returns
  have hlocks := B.notSynchronized
  have hts := atoms_spec (ws := wsX1_honestCut) B.pre
  have hown := findClass_of_methodNamed B.named
  have hown : s.vm.findClass RX1 = some m.cls := hown
  have hiX6 : ∀ w ∈ u_ws RX6 TX6 15, w ∈ wsX1_honestCut := fun w9 hw9 => List.mem_cons_of_mem _ (igX6 w9 hw9)
  have fl24 := hts (.fieldLink RX1 24 "HalfScales$Thing" "cellCount" "I") (List.mem_cons_of_mem _ (hs_inG 1 52 rfl rfl))
  have mm19 := hts (.methodLink RX1 19 Lib.Math.abs.name) (List.mem_cons_of_mem _ (hs_inG 3 99 rfl rfl))
  have msabs := hts (.static Lib.Math.abs.name) (List.mem_cons_of_mem _ (hs_inG 3 69 rfl rfl))
  have mi := hts (.initialized "java/lang/Math") (List.mem_cons_of_mem _ (hs_inG 1 14 rfl rfl))
  have mcabs := hts (.code Lib.Math.abs.name Lib.Math.abs.code 1 (some .int)) (List.mem_cons_of_mem _ (hs_inG 3 70 rfl rfl))
  obtain ⟨I0, I1, ⟨I2, I2b⟩, I3, I4⟩ := hN0
  subst hsz
  have hD := hD0.self (sz := s.heap.size)
  generalize hAe : va_A [oqT t t_a t_N t_J, oqF0 k t_a t_F, oqF1 k t_a t_F, oqF2 k t_a t_F, oqF3 k t_a t_F, oqF4 k t_a t_F, oqF5 k t_a t_F, oqF6 k t_a t_F] s.heap.size = A at hD ⊢
  have hA : ∀ q : Nat, s.heap.size ≤ q → A q := fun q h => by rw [← hAe]; exact Or.inr h
  have hS : va_S A s.heap s.heap [] := va_S.rf
  have hl := lv_entry ([.ref t, .int (nI j)]) (n := 6) (Nat.le_of_ble_eq_true rfl)
  rw [lg_entry_eq]
  generalize (lg_sl ([.ref t, .int (nI j)]) ++ List.replicate (6 - (lg_sl ([.ref t, .int (nI j)])).length) Slot.unset).toArray = ls at hl ⊢
  have hl : lv_has ls 6 [(0, .ref t), (1, .int (nI j))] := hl
  have hP : va_P D vwCl [oqT t t_a t_N t_J, oqF0 k t_a t_F, oqF1 k t_a t_F, oqF2 k t_a t_F, oqF3 k t_a t_F, oqF4 k t_a t_F, oqF5 k t_a t_F, oqF6 k t_a t_F] s.heap := hP
  refine lv_iconst (v := 1) hx hb dX1_honestCut_0 hki_1 ?_
  refine lv_istore_n (lv' := [(2, .int 1), (0, .ref t), (1, .int (nI j))]) hx hb dX1_honestCut_1 rfl hl (Nat.le_of_ble_eq_true rfl) rfl (fun ls hl => ?_)
  refine lv_aload_n hx hb dX1_honestCut_2 rfl (lv_at hl 1 rfl) ?_
  refine lv_iload_n hx hb dX1_honestCut_3 rfl (lv_at hl 2 rfl) ?_
  refine lv_aload_n hx hb dX1_honestCut_4 rfl (lv_at hl 1 rfl) ?_
  refine lv_iconst (v := 1) hx hb dX1_honestCut_5 hki_1 ?_
  refine hs_ciM (va_runV (As := [.int 1]) (rest := [.int (nI j), .ref t]) ⟨hx, hb, hml, hown, hts⟩ (gf_leftOf l D k _ t t_a t_N t_J 1) (cwV 1 hts gX1_honestCut_X6_leftOf rfl rfl rfl ⟨rfl, hq_X6_leftOf⟩ ⟨Nat.le_of_ble_eq_true rfl, Nat.le_of_ble_eq_true rfl⟩) (hs_preV hK hN (hs_subP (w := [_]) hP [0] rfl) (hD.sub (ws' := [_]) [0] (hs_upnd rfl) rfl) (ci := 5) (q0 := 0) rfl rfl) rfl rfl hl.1 rfl (lv_room (Nat.le_of_ble_eq_true rfl)) dX1_honestCut_6 ⟨Nat.le_of_ble_eq_true rfl, Nat.le_of_ble_eq_true rfl⟩) hP hD hS hA [false, true, true, true, true, true, true, true] [_, _, _, _, _, _, _] [_] rfl [0] rfl [0] (fun u_3 => [_]) (fun _ => rfl) (hs_upnd rfl) [false, true, true, true, true, true, true, true] (fun u_3 => [_, _, _, _, _, _, _, _]) (fun _ => rfl) (fun r_1 u_3 H locs hw_2 hP hD hS => ?_)
  refine hs_topi (A_lf 1) hw_2 ?_
  refine hs_ciM (va_runV (As := [.int (nI j), .int (A_lf 1)]) (rest := []) ⟨hx, hb, hml, hown, hts⟩ (gf_lead l D k _ t t_a t_N t_J t_F j (A_lf 1) (by first | assumption | exact ⟨by first | omega | (dsimp; omega), by first | omega | (dsimp; omega), ⟨by first | omega | (dsimp; omega), by first | omega | (dsimp; omega)⟩, by first | omega | (dsimp; omega), by first | omega | (dsimp; omega)⟩) (by omega)) (cwV 2 hts gX1_honestCut_X6_lead rfl rfl rfl ⟨rfl, hq_X6_lead⟩ ⟨Nat.le_of_ble_eq_true rfl, Nat.le_of_ble_eq_true rfl⟩) (hs_preV hK hN (hs_subP (w := [_, _, _, _, _, _, _, _]) hP [0, 1, 2, 3, 4, 5, 6, 7] rfl) (hD.sub (ws' := [_, _, _, _, _, _, _, _]) [0, 1, 2, 3, 4, 5, 6, 7] (hs_upnd rfl) rfl) (ci := 5) (q0 := 0) rfl rfl) rfl rfl hl.1 rfl (lv_room (Nat.le_of_ble_eq_true rfl)) dX1_honestCut_9 ⟨Nat.le_of_ble_eq_true rfl, Nat.le_of_ble_eq_true rfl⟩) hP hD hS hA [false, false, false, false, false, false, false, false] [] [_, _, _, _, _, _, _, _] rfl [0, 1, 2, 3, 4, 5, 6, 7] rfl [0, 1, 2, 3, 4, 5, 6, 7] (fun u_6 => [_, _, _, _, _, _, _, _]) (fun _ => rfl) (hs_upnd rfl) [false, false, false, false, false, false, false, false] (fun u_6 => [_, _, _, _, _, _, _, _]) (fun _ => rfl) (fun r_4 u_6 H locs hw_5 hP hD hS => ?_)
  refine hs_topi (A_ld (A_fc t_F j) (A_lf 1) (t_N 0)) hw_5 ?_
  refine va_mabs hx hb (hml.trans hl.1.symm) hown mm19 msabs mi mcabs (Nat.le_of_ble_eq_true rfl) (Nat.le_of_ble_eq_true rfl) (Nat.zero_le _) (Nat.zero_le _) dX1_honestCut_12 ?_
  refine lv_istore_n (lv' := [(3, .int (if 0 ≤ (A_ld (A_fc t_F j) (A_lf 1) (t_N 0)) then (A_ld (A_fc t_F j) (A_lf 1) (t_N 0)) else 0 - (A_ld (A_fc t_F j) (A_lf 1) (t_N 0)))), (2, .int 1), (0, .ref t), (1, .int (nI j))]) hx hb dX1_honestCut_15 rfl hl (Nat.le_of_ble_eq_true rfl) rfl (fun ls hl => ?_)
  refine lv_iconst (v := 2) hx hb dX1_honestCut_16 hki_2 ?_
  refine lv_istore (lv' := [(4, .int 2), (3, .int (if 0 ≤ (A_ld (A_fc t_F j) (A_lf 1) (t_N 0)) then (A_ld (A_fc t_F j) (A_lf 1) (t_N 0)) else 0 - (A_ld (A_fc t_F j) (A_lf 1) (t_N 0)))), (2, .int 1), (0, .ref t), (1, .int (nI j))]) hx hb dX1_honestCut_17 hl (Nat.le_of_ble_eq_true rfl) rfl (fun ls hl => ?_)
  refine hs_while (σ := Int32 × Int32 × Nat) (fun x => 2 ≤ x.2.2 ∧ x.2.2 - 2 ≤ t_N 0 - 2 ∧ x.1 = (A_mnC (A_hoC t_N t_F j) (x.2.2 - 2)).1 ∧ x.2.1 = (A_mnC (A_hoC t_N t_F j) (x.2.2 - 2)).2) (fun x => t_N 0 + 2 - x.2.2) (fun x => [oqT t t_a t_N t_J, oqF0 k t_a t_F, oqF1 k t_a t_F, oqF2 k t_a t_F, oqF3 k t_a t_F, oqF4 k t_a t_F, oqF5 k t_a t_F, oqF6 k t_a t_F]) (fun x => [(4, .int (nI (x.2.2))), (3, .int (x.2.1)), (2, .int (x.1)), (0, .ref t), (1, .int (nI j))]) ?_ (1, if 0 ≤ (A_ld (A_fc t_F j) (A_lf 1) (t_N 0)) then (A_ld (A_fc t_F j) (A_lf 1) (t_N 0)) else 0 - (A_ld (A_fc t_F j) (A_lf 1) (t_N 0)), 2) ?_ hP hD hS hl
  · intro x hI ih19 H locs ls hP hD hS hl
    obtain ⟨best, least, kk⟩ := x
    try dsimp only at hI
    have hP : va_P D vwCl [_, _, _, _, _, _, _, _] H := hP
    have hD : va_D A [_, _, _, _, _, _, _, _] := hD
    have hl : lv_has ls 6 [(4, .int (nI kk)), (3, .int least), (2, .int best), (0, .ref t), (1, .int (nI j))] := hl
    refine lv_iload hx hb dX1_honestCut_19 (lv_at hl 0 rfl) ?_
    refine lv_aload_n hx hb dX1_honestCut_21 rfl (lv_at hl 3 rfl) ?_
    refine va_get (D := D) (ci := 5) (v := .int (nI (t_N 0))) (C := RX6) (T := TX6) (N := 15) hx hb hts hiX6 hown hK hP 0 rfl rfl 7 (Nat.le_of_ble_eq_true rfl) fl24 (fun _ h9 => h9) rfl dX1_honestCut_22 ?_
    refine lv_icmp_ge (tgt := 62) hx hb dX1_honestCut_25 rfl (fun c_7 => ?_) (fun c_7 => ?_)
    · have nc_7 : (t_N 0) ≤ kk := (nI_leI (a := (t_N 0)) (b := kk) (by omega) (by omega)).mp c_7
      refine lv_iload_n hx hb dX1_honestCut_62 rfl (lv_at hl 2 rfl) ?_
      exact hs_iret hx hb hr hlocks hK hP hD hS () [0, 1, 2, 3, 4, 5, 6, 7] rfl (hs_upnd rfl) dX1_honestCut_63 ((by rw [hI.2.2.1, show kk - 2 = t_N 0 - 2 by omega]))
    · have nc_7 : ¬ (t_N 0) ≤ kk := fun hq9 => c_7 ((nI_leI (a := (t_N 0)) (b := kk) (by omega) (by omega)).mpr hq9)
      refine lv_aload_n hx hb dX1_honestCut_28 rfl (lv_at hl 3 rfl) ?_
      refine lv_iload_n hx hb dX1_honestCut_29 rfl (lv_at hl 4 rfl) ?_
      refine lv_aload_n hx hb dX1_honestCut_30 rfl (lv_at hl 3 rfl) ?_
      refine lv_iload hx hb dX1_honestCut_31 (lv_at hl 0 rfl) ?_
      refine hs_ciM (va_runV (As := [.int (nI kk)]) (rest := [.int (nI j), .ref t]) ⟨hx, hb, hml, hown, hts⟩ (gf_leftOf l D k _ t t_a t_N t_J (nI kk)) (cwV 1 hts gX1_honestCut_X6_leftOf rfl rfl rfl ⟨rfl, hq_X6_leftOf⟩ ⟨Nat.le_of_ble_eq_true rfl, Nat.le_of_ble_eq_true rfl⟩) (hs_preV hK hN (hs_subP (w := [_]) hP [0] rfl) (hD.sub (ws' := [_]) [0] (hs_upnd rfl) rfl) (ci := 5) (q0 := 0) rfl rfl) rfl rfl hl.1 rfl (lv_room (Nat.le_of_ble_eq_true rfl)) dX1_honestCut_33 ⟨Nat.le_of_ble_eq_true rfl, Nat.le_of_ble_eq_true rfl⟩) hP hD hS hA [false, true, true, true, true, true, true, true] [_, _, _, _, _, _, _] [_] rfl [0] rfl [0] (fun u_10 => [_]) (fun _ => rfl) (hs_upnd rfl) [false, true, true, true, true, true, true, true] (fun u_10 => [_, _, _, _, _, _, _, _]) (fun _ => rfl) (fun r_8 u_10 H locs hw_9 hP hD hS => ?_)
      refine hs_topi (A_lf (nI kk)) hw_9 ?_
      refine hs_ciM (va_runV (As := [.int (nI j), .int (A_lf (nI kk))]) (rest := []) ⟨hx, hb, hml, hown, hts⟩ (gf_lead l D k _ t t_a t_N t_J t_F j (A_lf (nI kk)) (by first | assumption | exact ⟨by first | omega | (dsimp; omega), by first | omega | (dsimp; omega), ⟨by first | omega | (dsimp; omega), by first | omega | (dsimp; omega)⟩, by first | omega | (dsimp; omega), by first | omega | (dsimp; omega)⟩) (by omega)) (cwV 2 hts gX1_honestCut_X6_lead rfl rfl rfl ⟨rfl, hq_X6_lead⟩ ⟨Nat.le_of_ble_eq_true rfl, Nat.le_of_ble_eq_true rfl⟩) (hs_preV hK hN (hs_subP (w := [_, _, _, _, _, _, _, _]) hP [0, 1, 2, 3, 4, 5, 6, 7] rfl) (hD.sub (ws' := [_, _, _, _, _, _, _, _]) [0, 1, 2, 3, 4, 5, 6, 7] (hs_upnd rfl) rfl) (ci := 5) (q0 := 0) rfl rfl) rfl rfl hl.1 rfl (lv_room (Nat.le_of_ble_eq_true rfl)) dX1_honestCut_36 ⟨Nat.le_of_ble_eq_true rfl, Nat.le_of_ble_eq_true rfl⟩) hP hD hS hA [false, false, false, false, false, false, false, false] [] [_, _, _, _, _, _, _, _] rfl [0, 1, 2, 3, 4, 5, 6, 7] rfl [0, 1, 2, 3, 4, 5, 6, 7] (fun u_13 => [_, _, _, _, _, _, _, _]) (fun _ => rfl) (hs_upnd rfl) [false, false, false, false, false, false, false, false] (fun u_13 => [_, _, _, _, _, _, _, _]) (fun _ => rfl) (fun r_11 u_13 H locs hw_12 hP hD hS => ?_)
      refine hs_topi (A_ld (A_fc t_F j) (A_lf (nI kk)) (t_N 0)) hw_12 ?_
      refine va_mabs hx hb (hml.trans hl.1.symm) hown mm19 msabs mi mcabs (Nat.le_of_ble_eq_true rfl) (Nat.le_of_ble_eq_true rfl) (Nat.zero_le _) (Nat.zero_le _) dX1_honestCut_39 ?_
      refine lv_istore (lv' := [(5, .int (if 0 ≤ (A_ld (A_fc t_F j) (A_lf (nI kk)) (t_N 0)) then (A_ld (A_fc t_F j) (A_lf (nI kk)) (t_N 0)) else 0 - (A_ld (A_fc t_F j) (A_lf (nI kk)) (t_N 0)))), (4, .int (nI kk)), (3, .int least), (2, .int best), (0, .ref t), (1, .int (nI j))]) hx hb dX1_honestCut_42 hl (Nat.le_of_ble_eq_true rfl) rfl (fun ls hl => ?_)
      refine lv_iload hx hb dX1_honestCut_44 (lv_at hl 0 rfl) ?_
      refine lv_iload_n hx hb dX1_honestCut_46 rfl (lv_at hl 2 rfl) ?_
      refine lv_icmp_ge (tgt := 56) hx hb dX1_honestCut_47 rfl (fun c_14 => ?_) (fun c_14 => ?_)
      · refine lv_iinc (v := nI (kk + 1)) (lv' := [(4, .int (nI (kk + 1))), (5, .int (if 0 ≤ (A_ld (A_fc t_F j) (A_lf (nI kk)) (t_N 0)) then (A_ld (A_fc t_F j) (A_lf (nI kk)) (t_N 0)) else 0 - (A_ld (A_fc t_F j) (A_lf (nI kk)) (t_N 0)))), (3, .int least), (2, .int best), (0, .ref t), (1, .int (nI j))]) hx hb dX1_honestCut_56 hl (k := 1) rfl (nI_add (kk) 1) (Nat.le_of_ble_eq_true rfl) rfl (fun ls hl => ?_)
        refine lv_goto (tgt := 19) hx hb dX1_honestCut_59 rfl ?_
        exact ih19 (best, least, kk + 1) (by (try dsimp only); exact ⟨by omega, by omega, by rw [A_mnC_s _ hI.1, if_neg (show ¬ (A_hoC t_N t_F j) kk < (A_mnC (A_hoC t_N t_F j) (kk - 2)).2 by rw [← hI.2.2.2]; exact Int32.not_lt.mpr c_14)]; exact hI.2.2.1, by rw [A_mnC_s _ hI.1, if_neg (show ¬ (A_hoC t_N t_F j) kk < (A_mnC (A_hoC t_N t_F j) (kk - 2)).2 by rw [← hI.2.2.2]; exact Int32.not_lt.mpr c_14)]; exact hI.2.2.2⟩) (by (try dsimp only); omega) _ _ _ hP hD hS (lv_sub hl [0, 2, 3, 4, 5] rfl)
      · refine lv_iload hx hb dX1_honestCut_50 (lv_at hl 1 rfl) ?_
        refine lv_istore_n (lv' := [(2, .int (nI kk)), (5, .int (if 0 ≤ (A_ld (A_fc t_F j) (A_lf (nI kk)) (t_N 0)) then (A_ld (A_fc t_F j) (A_lf (nI kk)) (t_N 0)) else 0 - (A_ld (A_fc t_F j) (A_lf (nI kk)) (t_N 0)))), (4, .int (nI kk)), (3, .int least), (0, .ref t), (1, .int (nI j))]) hx hb dX1_honestCut_52 rfl hl (Nat.le_of_ble_eq_true rfl) rfl (fun ls hl => ?_)
        refine lv_iload hx hb dX1_honestCut_53 (lv_at hl 1 rfl) ?_
        refine lv_istore_n (lv' := [(3, .int (if 0 ≤ (A_ld (A_fc t_F j) (A_lf (nI kk)) (t_N 0)) then (A_ld (A_fc t_F j) (A_lf (nI kk)) (t_N 0)) else 0 - (A_ld (A_fc t_F j) (A_lf (nI kk)) (t_N 0)))), (2, .int (nI kk)), (5, .int (if 0 ≤ (A_ld (A_fc t_F j) (A_lf (nI kk)) (t_N 0)) then (A_ld (A_fc t_F j) (A_lf (nI kk)) (t_N 0)) else 0 - (A_ld (A_fc t_F j) (A_lf (nI kk)) (t_N 0)))), (4, .int (nI kk)), (0, .ref t), (1, .int (nI j))]) hx hb dX1_honestCut_55 rfl hl (Nat.le_of_ble_eq_true rfl) rfl (fun ls hl => ?_)
        refine lv_iinc (v := nI (kk + 1)) (lv' := [(4, .int (nI (kk + 1))), (3, .int (if 0 ≤ (A_ld (A_fc t_F j) (A_lf (nI kk)) (t_N 0)) then (A_ld (A_fc t_F j) (A_lf (nI kk)) (t_N 0)) else 0 - (A_ld (A_fc t_F j) (A_lf (nI kk)) (t_N 0)))), (2, .int (nI kk)), (5, .int (if 0 ≤ (A_ld (A_fc t_F j) (A_lf (nI kk)) (t_N 0)) then (A_ld (A_fc t_F j) (A_lf (nI kk)) (t_N 0)) else 0 - (A_ld (A_fc t_F j) (A_lf (nI kk)) (t_N 0)))), (0, .ref t), (1, .int (nI j))]) hx hb dX1_honestCut_56 hl (k := 3) rfl (nI_add (kk) 1) (Nat.le_of_ble_eq_true rfl) rfl (fun ls hl => ?_)
        refine lv_goto (tgt := 19) hx hb dX1_honestCut_59 rfl ?_
        exact ih19 (nI kk, if 0 ≤ (A_ld (A_fc t_F j) (A_lf (nI kk)) (t_N 0)) then (A_ld (A_fc t_F j) (A_lf (nI kk)) (t_N 0)) else 0 - (A_ld (A_fc t_F j) (A_lf (nI kk)) (t_N 0)), kk + 1) (by (try dsimp only); exact ⟨by omega, by omega, by rw [A_mnC_s _ hI.1, if_pos (show (A_hoC t_N t_F j) kk < (A_mnC (A_hoC t_N t_F j) (kk - 2)).2 by rw [← hI.2.2.2]; exact Int32.not_le.mp c_14)]; try rfl, by rw [A_mnC_s _ hI.1, if_pos (show (A_hoC t_N t_F j) kk < (A_mnC (A_hoC t_N t_F j) (kk - 2)).2 by rw [← hI.2.2.2]; exact Int32.not_le.mp c_14)]; try rfl⟩) (by (try dsimp only); omega) _ _ _ hP hD hS (lv_sub hl [0, 1, 2, 4, 5] rfl)
  · (try dsimp only); exact ⟨by decide, by omega, rfl, rfl⟩

set_option maxHeartbeats 4000000 in
set_option maxRecDepth 100000 in
theorem gr_honestCut (l : Launch) (D : va_G) (k : Nat → ClassId) (sz : Nat) (mo : Nat) (mo_st : Nat) (mo_at : Nat) (mo_isKept : Nat) (mo_pe : Nat) (mo_hm : Nat) (mo_draft : Nat) (mo_dp : Nat) (mo_dh : Nat) (mo_toldLines : Int32) (mo_highest : Int32) (mo_tape : Nat) (mo_tl : Nat) (mo_ps : Nat) (mo_fr : Nat) (mo_sort : Int32) (mo_value : Int32) (mo_ft : Nat) (mo_wrongAt : Int32) (mo_row : Nat) (mo_orderMany : Int32) (mo_fo : Nat) (mo_lightest : Int32) (mo_heaviest : Int32) (mo_before : Nat) (mo_justSum : Int64) (mo_toldSum : Int64) (mo_allWays : Int64) (mo_lanes : Nat) (mo_sizes : Nat) (mo_cells : Nat) (mo_torn : Int32) (mo_had : Nat) (af : Nat → Int32) (c0 : Nat) (j : Nat) (e0 : af 0 = nI c0) (h0 : c0 ≤ 8) (hj : j < 4) : MI l yX8_honestCut wsX8_honestCut ({ frames := 3, cells := 0, slots := 0, locals := 70 }) D k [.ref mo, .int (nI j)] [oq7 mo mo_st mo_at mo_isKept (nI mo_pe) (nI mo_hm) mo_draft (nI mo_dp) (nI mo_dh) mo_toldLines mo_highest mo_tape (nI mo_tl) (nI mo_ps) (nI mo_fr) mo_sort mo_value (nI mo_ft) mo_wrongAt mo_row mo_orderMany (nI mo_fo) mo_lightest mo_heaviest mo_before mo_justSum mo_toldSum mo_allWays mo_lanes mo_sizes mo_cells mo_torn mo_had, oqI k mo_at 44 (af)] sz (fun (r : Int32) (u : Unit) => r = (A_mnM (A_hoM c0 af j) (c0 - 1)).1) (fun (u : Unit) => [oq7 mo mo_st mo_at mo_isKept (nI mo_pe) (nI mo_hm) mo_draft (nI mo_dp) (nI mo_dh) mo_toldLines mo_highest mo_tape (nI mo_tl) (nI mo_ps) (nI mo_fr) mo_sort mo_value (nI mo_ft) mo_wrongAt mo_row mo_orderMany (nI mo_fo) mo_lightest mo_heaviest mo_before mo_justSum mo_toldSum mo_allWays mo_lanes mo_sizes mo_cells mo_torn mo_had, oqI k mo_at 44 (af)]) := by
  refine Met.ofW (cc := cX8_honestCut) (maxL := 6) (ret := (some .int)) hpn_X8 rfl ?_
  intro p e s m args below meth c s₁ B hml hv
  obtain ⟨rfl, hsz, hP, hK, hD0, hN⟩ := hv
  have hx := B.exec
  have hb := B.bytes
  have hr := B.returns
  have hlocks := B.notSynchronized
  have hts := atoms_spec (ws := wsX8_honestCut) B.pre
  have hown := findClass_of_methodNamed B.named
  have hown : s.vm.findClass RX8 = some m.cls := hown
  have hiX8 : ∀ w ∈ u_ws RX8 TX8 32, w ∈ wsX8_honestCut := fun w9 hw9 => List.mem_cons_of_mem _ (igX8 w9 hw9)
  have fl13 := hts (.fieldLink RX8 13 "HalfScalesModel" "at" "[I") (List.mem_cons_of_mem _ (hs_inG 4 81 rfl rfl))
  have kc235 := hts (.constant RX8 235 (1000000)) (List.mem_cons_of_mem _ (hs_inG 5 163 rfl rfl))
  subst hsz
  have hD := hD0.self (sz := s.heap.size)
  generalize hAe : va_A [oq7 mo mo_st mo_at mo_isKept (nI mo_pe) (nI mo_hm) mo_draft (nI mo_dp) (nI mo_dh) mo_toldLines mo_highest mo_tape (nI mo_tl) (nI mo_ps) (nI mo_fr) mo_sort mo_value (nI mo_ft) mo_wrongAt mo_row mo_orderMany (nI mo_fo) mo_lightest mo_heaviest mo_before mo_justSum mo_toldSum mo_allWays mo_lanes mo_sizes mo_cells mo_torn mo_had, oqI k mo_at 44 (af)] s.heap.size = A at hD ⊢
  have hA : ∀ q : Nat, s.heap.size ≤ q → A q := fun q h => by rw [← hAe]; exact Or.inr h
  have hS : va_S A s.heap s.heap [] := va_S.rf
  have hl := lv_entry ([.ref mo, .int (nI j)]) (n := 6) (Nat.le_of_ble_eq_true rfl)
  rw [lg_entry_eq]
  generalize (lg_sl ([.ref mo, .int (nI j)]) ++ List.replicate (6 - (lg_sl ([.ref mo, .int (nI j)])).length) Slot.unset).toArray = ls at hl ⊢
  have hl : lv_has ls 6 [(0, .ref mo), (1, .int (nI j))] := hl
  have hP : va_P D vwCl [oq7 mo mo_st mo_at mo_isKept (nI mo_pe) (nI mo_hm) mo_draft (nI mo_dp) (nI mo_dh) mo_toldLines mo_highest mo_tape (nI mo_tl) (nI mo_ps) (nI mo_fr) mo_sort mo_value (nI mo_ft) mo_wrongAt mo_row mo_orderMany (nI mo_fo) mo_lightest mo_heaviest mo_before mo_justSum mo_toldSum mo_allWays mo_lanes mo_sizes mo_cells mo_torn mo_had, oqI k mo_at 44 (af)] s.heap := hP
  refine lv_ldc hx hb hown kc235 dX8_honestCut_0 ?_
  refine lv_istore_n (lv' := [(2, .int 1000000), (0, .ref mo), (1, .int (nI j))]) hx hb dX8_honestCut_2 rfl hl (Nat.le_of_ble_eq_true rfl) rfl (fun ls hl => ?_)
  refine lv_iconst (v := 1) hx hb dX8_honestCut_3 hki_1 ?_
  refine lv_istore_n (lv' := [(3, .int 1), (2, .int 1000000), (0, .ref mo), (1, .int (nI j))]) hx hb dX8_honestCut_4 rfl hl (Nat.le_of_ble_eq_true rfl) rfl (fun ls hl => ?_)
  refine lv_iconst (v := 1) hx hb dX8_honestCut_5 hki_1 ?_
  refine lv_istore (lv' := [(4, .int 1), (3, .int 1), (2, .int 1000000), (0, .ref mo), (1, .int (nI j))]) hx hb dX8_honestCut_6 hl (Nat.le_of_ble_eq_true rfl) rfl (fun ls hl => ?_)
  refine hs_while (σ := Int32 × Int32 × Nat) (fun x => 1 ≤ x.2.2 ∧ x.2.2 - 1 ≤ c0 - 1 ∧ x.2.1 = (A_mnM (A_hoM c0 af j) (x.2.2 - 1)).1 ∧ x.1 = (A_mnM (A_hoM c0 af j) (x.2.2 - 1)).2) (fun x => c0 + 1 - x.2.2) (fun x => [oq7 mo mo_st mo_at mo_isKept (nI mo_pe) (nI mo_hm) mo_draft (nI mo_dp) (nI mo_dh) mo_toldLines mo_highest mo_tape (nI mo_tl) (nI mo_ps) (nI mo_fr) mo_sort mo_value (nI mo_ft) mo_wrongAt mo_row mo_orderMany (nI mo_fo) mo_lightest mo_heaviest mo_before mo_justSum mo_toldSum mo_allWays mo_lanes mo_sizes mo_cells mo_torn mo_had, oqI k mo_at 44 (af)]) (fun x => [(4, .int (nI (x.2.2))), (3, .int (x.2.1)), (2, .int (x.1)), (0, .ref mo), (1, .int (nI j))]) ?_ (1000000, 1, 1) ?_ hP hD hS hl
  · intro x hI ih8 H locs ls hP hD hS hl
    obtain ⟨least, fo, kk⟩ := x
    try dsimp only at hI
    have hP : va_P D vwCl [oq7 mo mo_st mo_at mo_isKept (nI mo_pe) (nI mo_hm) mo_draft (nI mo_dp) (nI mo_dh) mo_toldLines mo_highest mo_tape (nI mo_tl) (nI mo_ps) (nI mo_fr) mo_sort mo_value (nI mo_ft) mo_wrongAt mo_row mo_orderMany (nI mo_fo) mo_lightest mo_heaviest mo_before mo_justSum mo_toldSum mo_allWays mo_lanes mo_sizes mo_cells mo_torn mo_had, oqI k mo_at 44 (af)] H := hP
    have hD : va_D A [oq7 mo mo_st mo_at mo_isKept (nI mo_pe) (nI mo_hm) mo_draft (nI mo_dp) (nI mo_dh) mo_toldLines mo_highest mo_tape (nI mo_tl) (nI mo_ps) (nI mo_fr) mo_sort mo_value (nI mo_ft) mo_wrongAt mo_row mo_orderMany (nI mo_fo) mo_lightest mo_heaviest mo_before mo_justSum mo_toldSum mo_allWays mo_lanes mo_sizes mo_cells mo_torn mo_had, oqI k mo_at 44 (af)] := hD
    have hl : lv_has ls 6 [(4, .int (nI kk)), (3, .int fo), (2, .int least), (0, .ref mo), (1, .int (nI j))] := hl
    refine lv_iload hx hb dX8_honestCut_8 (lv_at hl 0 rfl) ?_
    refine lv_aload_n hx hb dX8_honestCut_10 rfl (lv_at hl 3 rfl) ?_
    refine va_get (D := D) (ci := 7) (v := .ref mo_at) (C := RX8) (T := TX8) (N := 32) hx hb hts hiX8 hown hK hP 0 rfl rfl 1 (Nat.le_of_ble_eq_true rfl) fl13 (fun _ h9 => h9) rfl dX8_honestCut_11 ?_
    refine lv_iconst (v := 0) hx hb dX8_honestCut_14 hki_0 ?_
    refine va_iald hx hb hK hP 1 0 rfl rfl (hs_in (by decide)) dX8_honestCut_15 ?_
    refine hs_topi (nI c0) e0 ?_
    refine lv_icmp_ge (tgt := 66) hx hb dX8_honestCut_16 rfl (fun c_1 => ?_) (fun c_1 => ?_)
    · have nc_1 : c0 ≤ kk := (nI_leI (a := c0) (b := kk) (by omega) (by omega)).mp c_1
      refine lv_iload_n hx hb dX8_honestCut_66 rfl (lv_at hl 1 rfl) ?_
      exact hs_iret hx hb hr hlocks hK hP hD hS () [0, 1] rfl (hs_upnd rfl) dX8_honestCut_67 ((by rw [hI.2.2.1, show kk - 1 = c0 - 1 by omega]))
    · have nc_1 : ¬ c0 ≤ kk := fun hq9 => c_1 ((nI_leI (a := c0) (b := kk) (by omega) (by omega)).mpr hq9)
      refine lv_aload_n hx hb dX8_honestCut_19 rfl (lv_at hl 3 rfl) ?_
      refine lv_iload_n hx hb dX8_honestCut_20 rfl (lv_at hl 4 rfl) ?_
      refine lv_iload hx hb dX8_honestCut_21 (lv_at hl 0 rfl) ?_
      refine hs_pi (va_runS (As := [.int (nI kk)]) (rest := [.int (nI j), .ref mo]) ⟨hx, hb, hml, hown, hts⟩ (gr_leftOf l D k _ (nI kk)) (va_cwS 1 hts gX8_honestCut_X8_leftOf rfl rfl rfl hq_X8_leftOf ⟨Nat.le_of_ble_eq_true rfl, Nat.le_of_ble_eq_true rfl⟩) (hs_preS hK hN (hs_subP (w := []) hP [] rfl) (hD.sub (ws' := []) [] rfl rfl)) rfl rfl hl.1 rfl (lv_room (Nat.le_of_ble_eq_true rfl)) dX8_honestCut_23 ⟨Nat.le_of_ble_eq_true rfl, Nat.le_of_ble_eq_true rfl⟩) hP hD hS hA (fun r_2 u_4 H locs hw_3 hP hS => ?_)
      refine hs_topi (A_lf (nI kk)) hw_3 ?_
      refine hs_ciM (va_runV (As := [.int (nI j), .int (A_lf (nI kk))]) (rest := []) ⟨hx, hb, hml, hown, hts⟩ (gr_moreLeft l D k _ mo mo_st mo_at mo_isKept mo_pe mo_hm mo_draft mo_dp mo_dh mo_toldLines mo_highest mo_tape mo_tl mo_ps mo_fr mo_sort mo_value mo_ft mo_wrongAt mo_row mo_orderMany mo_fo mo_lightest mo_heaviest mo_before mo_justSum mo_toldSum mo_allWays mo_lanes mo_sizes mo_cells mo_torn mo_had af c0 j (A_lf (nI kk)) (by first | exact e0a | exact e0) (by omega) (by omega)) (cwV 2 hts gX8_honestCut_X8_moreLeft rfl rfl rfl ⟨rfl, hq_X8_moreLeft⟩ ⟨Nat.le_of_ble_eq_true rfl, Nat.le_of_ble_eq_true rfl⟩) (hs_preV hK hN (hs_subP (w := [_, _]) hP [0, 1] rfl) (hD.sub (ws' := [_, _]) [0, 1] (hs_upnd rfl) rfl) (ci := 7) (q0 := 0) rfl rfl) rfl rfl hl.1 rfl (lv_room (Nat.le_of_ble_eq_true rfl)) dX8_honestCut_26 ⟨Nat.le_of_ble_eq_true rfl, Nat.le_of_ble_eq_true rfl⟩) hP hD hS hA [false, false] [] [_, _] rfl [0, 1] rfl [0, 1] (fun u_7 => [_, _]) (fun _ => rfl) (hs_upnd rfl) [false, false] (fun u_7 => [_, _]) (fun _ => rfl) (fun r_5 u_7 H locs hw_6 hP hD hS => ?_)
      refine hs_topi (A_ml (A_fm af j) (A_lf (nI kk)) c0) hw_6 ?_
      refine hs_pi (va_runS (As := [.int (A_ml (A_fm af j) (A_lf (nI kk)) c0)]) (rest := []) ⟨hx, hb, hml, hown, hts⟩ (gr_sizeOf l D k _ (A_ml (A_fm af j) (A_lf (nI kk)) c0)) (va_cwS 1 hts gX8_honestCut_X8_sizeOf rfl rfl rfl hq_X8_sizeOf ⟨Nat.le_of_ble_eq_true rfl, Nat.le_of_ble_eq_true rfl⟩) (hs_preS hK hN (hs_subP (w := []) hP [] rfl) (hD.sub (ws' := []) [] rfl rfl)) rfl rfl hl.1 rfl (lv_room (Nat.le_of_ble_eq_true rfl)) dX8_honestCut_29 ⟨Nat.le_of_ble_eq_true rfl, Nat.le_of_ble_eq_true rfl⟩) hP hD hS hA (fun r_8 u_10 H locs hw_9 hP hS => ?_)
      refine hs_topi (A_sz (A_ml (A_fm af j) (A_lf (nI kk)) c0)) hw_9 ?_
      refine lv_istore (lv' := [(5, .int (A_sz (A_ml (A_fm af j) (A_lf (nI kk)) c0))), (4, .int (nI kk)), (3, .int fo), (2, .int least), (0, .ref mo), (1, .int (nI j))]) hx hb dX8_honestCut_32 hl (Nat.le_of_ble_eq_true rfl) rfl (fun ls hl => ?_)
      refine lv_iload hx hb dX8_honestCut_34 (lv_at hl 0 rfl) ?_
      refine lv_iload_n hx hb dX8_honestCut_36 rfl (lv_at hl 3 rfl) ?_
      refine lv_icmp_ge (tgt := 45) hx hb dX8_honestCut_37 rfl (fun c_11 => ?_) (fun c_11 => ?_)
      · refine lv_iload_n hx hb dX8_honestCut_45 rfl (lv_at hl 2 rfl) ?_
        refine lv_istore_n (lv' := [(3, .int fo), (5, .int (A_sz (A_ml (A_fm af j) (A_lf (nI kk)) c0))), (4, .int (nI kk)), (2, .int least), (0, .ref mo), (1, .int (nI j))]) hx hb dX8_honestCut_46 rfl hl (Nat.le_of_ble_eq_true rfl) rfl (fun ls hl => ?_)
        refine lv_iload hx hb dX8_honestCut_47 (lv_at hl 1 rfl) ?_
        refine lv_iload_n hx hb dX8_honestCut_49 rfl (lv_at hl 3 rfl) ?_
        refine lv_icmp_ge (tgt := 58) hx hb dX8_honestCut_50 rfl (fun c_12 => ?_) (fun c_12 => ?_)
        · refine lv_iload_n hx hb dX8_honestCut_58 rfl (lv_at hl 3 rfl) ?_
          refine lv_istore_n (lv' := [(2, .int least), (3, .int fo), (5, .int (A_sz (A_ml (A_fm af j) (A_lf (nI kk)) c0))), (4, .int (nI kk)), (0, .ref mo), (1, .int (nI j))]) hx hb dX8_honestCut_59 rfl hl (Nat.le_of_ble_eq_true rfl) rfl (fun ls hl => ?_)
          refine lv_iinc (v := nI (kk + 1)) (lv' := [(4, .int (nI (kk + 1))), (2, .int least), (3, .int fo), (5, .int (A_sz (A_ml (A_fm af j) (A_lf (nI kk)) c0))), (0, .ref mo), (1, .int (nI j))]) hx hb dX8_honestCut_60 hl (k := 3) rfl (nI_add (kk) 1) (Nat.le_of_ble_eq_true rfl) rfl (fun ls hl => ?_)
          refine lv_goto (tgt := 8) hx hb dX8_honestCut_63 rfl ?_
          exact ih8 (least, fo, kk + 1) (by (try dsimp only); exact ⟨by omega, by omega, by rw [A_mnM_s _ hI.1, if_neg (show ¬ (A_hoM c0 af j) kk < (A_mnM (A_hoM c0 af j) (kk - 1)).2 by rw [← hI.2.2.2]; exact Int32.not_lt.mpr c_11)]; exact hI.2.2.1, by rw [A_mnM_s _ hI.1, if_neg (show ¬ (A_hoM c0 af j) kk < (A_mnM (A_hoM c0 af j) (kk - 1)).2 by rw [← hI.2.2.2]; exact Int32.not_lt.mpr c_11)]; exact hI.2.2.2⟩) (by (try dsimp only); omega) _ _ _ hP hD hS (lv_sub hl [0, 2, 1, 4, 5] rfl)
        · refine lv_iload hx hb dX8_honestCut_53 (lv_at hl 1 rfl) ?_
          refine lv_goto (tgt := 59) hx hb dX8_honestCut_55 rfl ?_
          refine lv_istore_n (lv' := [(2, .int (A_sz (A_ml (A_fm af j) (A_lf (nI kk)) c0))), (3, .int fo), (5, .int (A_sz (A_ml (A_fm af j) (A_lf (nI kk)) c0))), (4, .int (nI kk)), (0, .ref mo), (1, .int (nI j))]) hx hb dX8_honestCut_59 rfl hl (Nat.le_of_ble_eq_true rfl) rfl (fun ls hl => ?_)
          refine lv_iinc (v := nI (kk + 1)) (lv' := [(4, .int (nI (kk + 1))), (2, .int (A_sz (A_ml (A_fm af j) (A_lf (nI kk)) c0))), (3, .int fo), (5, .int (A_sz (A_ml (A_fm af j) (A_lf (nI kk)) c0))), (0, .ref mo), (1, .int (nI j))]) hx hb dX8_honestCut_60 hl (k := 3) rfl (nI_add (kk) 1) (Nat.le_of_ble_eq_true rfl) rfl (fun ls hl => ?_)
          refine lv_goto (tgt := 8) hx hb dX8_honestCut_63 rfl ?_
          exact ih8 (A_sz (A_ml (A_fm af j) (A_lf (nI kk)) c0), fo, kk + 1) (by (try dsimp only); exact absurd c_11 c_12) (by (try dsimp only); omega) _ _ _ hP hD hS (lv_sub hl [0, 2, 1, 4, 5] rfl)
      · refine lv_iload hx hb dX8_honestCut_40 (lv_at hl 1 rfl) ?_
        refine lv_goto (tgt := 46) hx hb dX8_honestCut_42 rfl ?_
        refine lv_istore_n (lv' := [(3, .int (nI kk)), (5, .int (A_sz (A_ml (A_fm af j) (A_lf (nI kk)) c0))), (4, .int (nI kk)), (2, .int least), (0, .ref mo), (1, .int (nI j))]) hx hb dX8_honestCut_46 rfl hl (Nat.le_of_ble_eq_true rfl) rfl (fun ls hl => ?_)
        refine lv_iload hx hb dX8_honestCut_47 (lv_at hl 1 rfl) ?_
        refine lv_iload_n hx hb dX8_honestCut_49 rfl (lv_at hl 3 rfl) ?_
        refine lv_icmp_ge (tgt := 58) hx hb dX8_honestCut_50 rfl (fun c_13 => ?_) (fun c_13 => ?_)
        · refine lv_iload_n hx hb dX8_honestCut_58 rfl (lv_at hl 3 rfl) ?_
          refine lv_istore_n (lv' := [(2, .int least), (3, .int (nI kk)), (5, .int (A_sz (A_ml (A_fm af j) (A_lf (nI kk)) c0))), (4, .int (nI kk)), (0, .ref mo), (1, .int (nI j))]) hx hb dX8_honestCut_59 rfl hl (Nat.le_of_ble_eq_true rfl) rfl (fun ls hl => ?_)
          refine lv_iinc (v := nI (kk + 1)) (lv' := [(4, .int (nI (kk + 1))), (2, .int least), (3, .int (nI kk)), (5, .int (A_sz (A_ml (A_fm af j) (A_lf (nI kk)) c0))), (0, .ref mo), (1, .int (nI j))]) hx hb dX8_honestCut_60 hl (k := 3) rfl (nI_add (kk) 1) (Nat.le_of_ble_eq_true rfl) rfl (fun ls hl => ?_)
          refine lv_goto (tgt := 8) hx hb dX8_honestCut_63 rfl ?_
          exact ih8 (least, nI kk, kk + 1) (by (try dsimp only); exact absurd c_13 c_11) (by (try dsimp only); omega) _ _ _ hP hD hS (lv_sub hl [0, 2, 1, 4, 5] rfl)
        · refine lv_iload hx hb dX8_honestCut_53 (lv_at hl 1 rfl) ?_
          refine lv_goto (tgt := 59) hx hb dX8_honestCut_55 rfl ?_
          refine lv_istore_n (lv' := [(2, .int (A_sz (A_ml (A_fm af j) (A_lf (nI kk)) c0))), (3, .int (nI kk)), (5, .int (A_sz (A_ml (A_fm af j) (A_lf (nI kk)) c0))), (4, .int (nI kk)), (0, .ref mo), (1, .int (nI j))]) hx hb dX8_honestCut_59 rfl hl (Nat.le_of_ble_eq_true rfl) rfl (fun ls hl => ?_)
          refine lv_iinc (v := nI (kk + 1)) (lv' := [(4, .int (nI (kk + 1))), (2, .int (A_sz (A_ml (A_fm af j) (A_lf (nI kk)) c0))), (3, .int (nI kk)), (5, .int (A_sz (A_ml (A_fm af j) (A_lf (nI kk)) c0))), (0, .ref mo), (1, .int (nI j))]) hx hb dX8_honestCut_60 hl (k := 3) rfl (nI_add (kk) 1) (Nat.le_of_ble_eq_true rfl) rfl (fun ls hl => ?_)
          refine lv_goto (tgt := 8) hx hb dX8_honestCut_63 rfl ?_
          exact ih8 (A_sz (A_ml (A_fm af j) (A_lf (nI kk)) c0), nI kk, kk + 1) (by (try dsimp only); exact ⟨by omega, by omega, by rw [A_mnM_s _ hI.1, if_pos (show (A_hoM c0 af j) kk < (A_mnM (A_hoM c0 af j) (kk - 1)).2 by rw [← hI.2.2.2]; exact Int32.not_le.mp c_11)]; try rfl, by rw [A_mnM_s _ hI.1, if_pos (show (A_hoM c0 af j) kk < (A_mnM (A_hoM c0 af j) (kk - 1)).2 by rw [← hI.2.2.2]; exact Int32.not_le.mp c_11)]; try rfl⟩) (by (try dsimp only); omega) _ _ _ hP hD hS (lv_sub hl [0, 2, 1, 4, 5] rfl)
  · (try dsimp only); exact ⟨by decide, by omega, rfl, rfl⟩
