set_option maxHeartbeats 4000000 in
set_option maxRecDepth 100000 in
theorem gf_justInAll (l : Launch) (D : va_G) (k : Nat → ClassId) (sz : Nat) (t : Nat) (t_a : Nat → Nat) (t_N : Nat → Nat) (t_J : Nat → Int32) (t_F : Nat → Nat → Int32) (hN0 : thN t_N) : MI l yX6_justInAll wsX6_justInAll ({ frames := 2, cells := 0, slots := 0, locals := 49 }) D k [.ref t] [oqT t t_a t_N t_J, oqF0 k t_a t_F, oqF1 k t_a t_F, oqF2 k t_a t_F, oqF3 k t_a t_F, oqF4 k t_a t_F, oqF5 k t_a t_F, oqF6 k t_a t_F] sz (fun (r : Int32) (u : Unit) => r = A_jiC t_N t_J t_F (t_N 1)) (fun (u : Unit) => [oqT t t_a t_N t_J, oqF0 k t_a t_F, oqF1 k t_a t_F, oqF2 k t_a t_F, oqF3 k t_a t_F, oqF4 k t_a t_F, oqF5 k t_a t_F, oqF6 k t_a t_F]) := by
  refine Met.ofW (cc := cX6_justInAll) (maxL := 5) (ret := (some .int)) hpn_X6 rfl ?_
  intro p e s m args below meth c s₁ B hml hv
  obtain ⟨rfl, hsz, hP, hK, hD0, hN⟩ := hv
  have hx := B.exec
  have hb := B.bytes
  have hr := B.returns
  have hlocks := B.notSynchronized
  have hts := atoms_spec (ws := wsX6_justInAll) B.pre
  have hown := findClass_of_methodNamed B.named
  have hown : s.vm.findClass RX6 = some m.cls := hown
  have hiX6 : ∀ w ∈ u_ws RX6 TX6 15, w ∈ wsX6_justInAll := fun w9 hw9 => List.mem_cons_of_mem _ (igX6 w9 hw9)
  have fl40 := hts (.fieldLink RX6 40 "HalfScales$Thing" "peopleCount" "I") (List.mem_cons_of_mem _ (hs_inG 1 55 rfl rfl))
  have fl36 := hts (.fieldLink RX6 36 "HalfScales$Thing" "cellCount" "I") (List.mem_cons_of_mem _ (hs_inG 1 51 rfl rfl))
  have fl43 := hts (.fieldLink RX6 43 "HalfScales$Thing" "slip" "I") (List.mem_cons_of_mem _ (hs_inG 1 59 rfl rfl))
  have mm94 := hts (.methodLink RX6 94 Lib.Math.abs.name) (List.mem_cons_of_mem _ (hs_inG 3 68 rfl rfl))
  have msabs := hts (.static Lib.Math.abs.name) (List.mem_cons_of_mem _ (hs_inG 3 69 rfl rfl))
  have mi := hts (.initialized "java/lang/Math") (List.mem_cons_of_mem _ (hs_inG 1 14 rfl rfl))
  have mcabs := hts (.code Lib.Math.abs.name Lib.Math.abs.code 1 (some .int)) (List.mem_cons_of_mem _ (hs_inG 3 70 rfl rfl))
  obtain ⟨I0, I1, ⟨I2, I2b⟩, I3, I4⟩ := hN0
  subst hsz
  have hD := hD0.self (sz := s.heap.size)
  generalize hAe : va_A [oqT t t_a t_N t_J, oqF0 k t_a t_F, oqF1 k t_a t_F, oqF2 k t_a t_F, oqF3 k t_a t_F, oqF4 k t_a t_F, oqF5 k t_a t_F, oqF6 k t_a t_F] s.heap.size = A at hD ⊢
  have hA : ∀ q : Nat, s.heap.size ≤ q → A q := fun q h => by rw [← hAe]; exact Or.inr h
  have hS : va_S A s.heap s.heap [] := va_S.rf
  have hl := lv_entry ([.ref t]) (n := 5) (Nat.le_of_ble_eq_true rfl)
  rw [lg_entry_eq]
  generalize (lg_sl ([.ref t]) ++ List.replicate (5 - (lg_sl ([.ref t])).length) Slot.unset).toArray = ls at hl ⊢
  have hl : lv_has ls 5 [(0, .ref t)] := hl
  have hP : va_P D vwCl [oqT t t_a t_N t_J, oqF0 k t_a t_F, oqF1 k t_a t_F, oqF2 k t_a t_F, oqF3 k t_a t_F, oqF4 k t_a t_F, oqF5 k t_a t_F, oqF6 k t_a t_F] s.heap := hP
  refine lv_iconst (v := 0) hx hb dX6_justInAll_0 hki_0 ?_
  refine lv_istore_n (lv' := [(1, .int 0), (0, .ref t)]) hx hb dX6_justInAll_1 rfl hl (Nat.le_of_ble_eq_true rfl) rfl (fun ls hl => ?_)
  refine lv_iconst (v := 0) hx hb dX6_justInAll_2 hki_0 ?_
  refine lv_istore_n (lv' := [(2, .int 0), (1, .int 0), (0, .ref t)]) hx hb dX6_justInAll_3 rfl hl (Nat.le_of_ble_eq_true rfl) rfl (fun ls hl => ?_)
  refine hs_while (σ := Int32 × Nat) (fun x => x.2 ≤ t_N 1 ∧ x.1 = A_jiC t_N t_J t_F x.2) (fun x => t_N 1 - x.2) (fun x => [oqT t t_a t_N t_J, oqF0 k t_a t_F, oqF1 k t_a t_F, oqF2 k t_a t_F, oqF3 k t_a t_F, oqF4 k t_a t_F, oqF5 k t_a t_F, oqF6 k t_a t_F]) (fun x => [(2, .int (nI (x.2))), (1, .int (x.1)), (0, .ref t)]) ?_ (0, 0) ?_ hP hD hS hl
  · intro x hI ih4 H locs ls hP hD hS hl
    obtain ⟨sum, q⟩ := x
    try dsimp only at hI
    have hP : va_P D vwCl [oqT t t_a t_N t_J, oqF0 k t_a t_F, oqF1 k t_a t_F, oqF2 k t_a t_F, oqF3 k t_a t_F, oqF4 k t_a t_F, oqF5 k t_a t_F, oqF6 k t_a t_F] H := hP
    have hD : va_D A [oqT t t_a t_N t_J, oqF0 k t_a t_F, oqF1 k t_a t_F, oqF2 k t_a t_F, oqF3 k t_a t_F, oqF4 k t_a t_F, oqF5 k t_a t_F, oqF6 k t_a t_F] := hD
    have hl : lv_has ls 5 [(2, .int (nI q)), (1, .int sum), (0, .ref t)] := hl
    refine lv_iload_n hx hb dX6_justInAll_4 rfl (lv_at hl 0 rfl) ?_
    refine lv_aload_n hx hb dX6_justInAll_5 rfl (lv_at hl 2 rfl) ?_
    refine va_get (D := D) (ci := 5) (v := .int (nI (t_N 1))) (C := RX6) (T := TX6) (N := 15) hx hb hts hiX6 hown hK hP 0 rfl rfl 8 (Nat.le_of_ble_eq_true rfl) fl40 (fun _ h9 => h9) rfl dX6_justInAll_6 ?_
    refine lv_icmp_ge (tgt := 75) hx hb dX6_justInAll_9 rfl (fun c_1 => ?_) (fun c_1 => ?_)
    · have nc_1 : (t_N 1) ≤ q := (nI_leI (a := (t_N 1)) (b := q) (by omega) (by omega)).mp c_1
      refine lv_iload_n hx hb dX6_justInAll_75 rfl (lv_at hl 1 rfl) ?_
      exact hs_iret hx hb hr hlocks hK hP hD hS () [0, 1, 2, 3, 4, 5, 6, 7] rfl (hs_upnd rfl) dX6_justInAll_76 (by rw [hI.2, show q = t_N 1 by omega])
    · have nc_1 : ¬ (t_N 1) ≤ q := fun hq9 => c_1 ((nI_leI (a := (t_N 1)) (b := q) (by omega) (by omega)).mpr hq9)
      have hJ9 := hI
      refine lv_aload_n hx hb dX6_justInAll_12 rfl (lv_at hl 2 rfl) ?_
      refine lv_iload_n hx hb dX6_justInAll_13 rfl (lv_at hl 0 rfl) ?_
      refine lv_aload_n hx hb dX6_justInAll_14 rfl (lv_at hl 2 rfl) ?_
      refine hs_ciM (va_runV (As := []) (rest := [.int (nI q), .ref t]) ⟨hx, hb, hml, hown, hts⟩ (g_allCells l D k _ t t_a t_N t_J (by first | assumption | exact ⟨by first | omega | (dsimp; omega), by first | omega | (dsimp; omega), ⟨by first | omega | (dsimp; omega), by first | omega | (dsimp; omega)⟩, by first | omega | (dsimp; omega), by first | omega | (dsimp; omega)⟩)) (cwV 0 hts gX6_justInAll_X6_allCells rfl rfl rfl ⟨rfl, hq_X6_allCells⟩ ⟨Nat.le_of_ble_eq_true rfl, Nat.le_of_ble_eq_true rfl⟩) (hs_preV hK hN (hs_subP (w := [_]) hP [0] rfl) (hD.sub (ws' := [_]) [0] (hs_upnd rfl) rfl) (ci := 5) (q0 := 0) rfl rfl) rfl rfl hl.1 rfl (lv_room (Nat.le_of_ble_eq_true rfl)) dX6_justInAll_15 ⟨Nat.le_of_ble_eq_true rfl, Nat.le_of_ble_eq_true rfl⟩) hP hD hS hA [false, true, true, true, true, true, true, true] [_, _, _, _, _, _, _] [_] rfl [0] rfl [0] (fun u_4 => [_]) (fun _ => rfl) (hs_upnd rfl) [false, true, true, true, true, true, true, true] (fun u_4 => [_, _, _, _, _, _, _, _]) (fun _ => rfl) (fun r_2 u_4 H locs hw_3 hP hD hS => ?_)
      refine hs_topi (nI (2 ^ (t_N 0) - 1)) hw_3 ?_
      refine hs_ciM (va_runV (As := [.int (nI q), .int (nI (2 ^ (t_N 0) - 1))]) (rest := []) ⟨hx, hb, hml, hown, hts⟩ (gf_worthOf l D k _ t t_a t_N t_J t_F q (nI (2 ^ (t_N 0) - 1)) (by first | assumption | exact ⟨by first | omega | (dsimp; omega), by first | omega | (dsimp; omega), ⟨by first | omega | (dsimp; omega), by first | omega | (dsimp; omega)⟩, by first | omega | (dsimp; omega), by first | omega | (dsimp; omega)⟩) (by omega)) (cwV 2 hts gX6_justInAll_X6_worthOf rfl rfl rfl ⟨rfl, hq_X6_worthOf⟩ ⟨Nat.le_of_ble_eq_true rfl, Nat.le_of_ble_eq_true rfl⟩) (hs_preV hK hN (hs_subP (w := [_, _, _, _, _, _, _, _]) hP [0, 1, 2, 3, 4, 5, 6, 7] rfl) (hD.sub (ws' := [_, _, _, _, _, _, _, _]) [0, 1, 2, 3, 4, 5, 6, 7] (hs_upnd rfl) rfl) (ci := 5) (q0 := 0) rfl rfl) rfl rfl hl.1 rfl (lv_room (Nat.le_of_ble_eq_true rfl)) dX6_justInAll_18 ⟨Nat.le_of_ble_eq_true rfl, Nat.le_of_ble_eq_true rfl⟩) hP hD hS hA [false, false, false, false, false, false, false, false] [] [_, _, _, _, _, _, _, _] rfl [0, 1, 2, 3, 4, 5, 6, 7] rfl [0, 1, 2, 3, 4, 5, 6, 7] (fun u_7 => [_, _, _, _, _, _, _, _]) (fun _ => rfl) (hs_upnd rfl) [false, false, false, false, false, false, false, false] (fun u_7 => [_, _, _, _, _, _, _, _]) (fun _ => rfl) (fun r_5 u_7 H locs hw_6 hP hD hS => ?_)
      refine hs_topi (A_ws (A_fc t_F q) (nI (2 ^ (t_N 0) - 1)) (t_N 0)) hw_6 ?_
      refine lv_ineg hx hb dX6_justInAll_21 ?_
      refine lv_istore_n (lv' := [(3, .int (-(A_ws (A_fc t_F q) (nI (2 ^ (t_N 0) - 1)) (t_N 0)))), (2, .int (nI q)), (1, .int sum), (0, .ref t)]) hx hb dX6_justInAll_22 rfl hl (Nat.le_of_ble_eq_true rfl) rfl (fun ls hl => ?_)
      refine lv_iconst (v := 1) hx hb dX6_justInAll_23 hki_1 ?_
      refine lv_istore (lv' := [(4, .int 1), (3, .int (-(A_ws (A_fc t_F q) (nI (2 ^ (t_N 0) - 1)) (t_N 0)))), (2, .int (nI q)), (1, .int sum), (0, .ref t)]) hx hb dX6_justInAll_24 hl (Nat.le_of_ble_eq_true rfl) rfl (fun ls hl => ?_)
      refine hs_while (σ := Int32 × Int32 × Nat) (fun x => 1 ≤ x.2.2 ∧ x.2.2 - 1 ≤ t_N 0 - 1 ∧ x.2.1 = A_mr (A_fc t_F q) (A_ws (A_fc t_F q) (nI (2 ^ t_N 0 - 1)) (t_N 0)) (x.2.2 - 1) ∧ x.1 = sum + A_sc (fun j => A_di t_N t_J t_F j q) (x.2.2 - 1)) (fun x => t_N 0 + 1 - x.2.2) (fun x => [oqT t t_a t_N t_J, oqF0 k t_a t_F, oqF1 k t_a t_F, oqF2 k t_a t_F, oqF3 k t_a t_F, oqF4 k t_a t_F, oqF5 k t_a t_F, oqF6 k t_a t_F]) (fun x => [(4, .int (nI (x.2.2))), (3, .int (x.2.1)), (2, .int (nI q)), (1, .int (x.1)), (0, .ref t)]) ?_ (sum, -(A_ws (A_fc t_F q) (nI (2 ^ (t_N 0) - 1)) (t_N 0)), 1) ?_ hP hD hS hl
      · intro x hI ih26 H locs ls hP hD hS hl
        obtain ⟨su2, more, kk⟩ := x
        try dsimp only at hI
        have hP : va_P D vwCl [_, _, _, _, _, _, _, _] H := hP
        have hD : va_D A [_, _, _, _, _, _, _, _] := hD
        have hl : lv_has ls 5 [(4, .int (nI kk)), (3, .int more), (2, .int (nI q)), (1, .int su2), (0, .ref t)] := hl
        refine lv_iload hx hb dX6_justInAll_26 (lv_at hl 0 rfl) ?_
        refine lv_aload_n hx hb dX6_justInAll_28 rfl (lv_at hl 4 rfl) ?_
        refine va_get (D := D) (ci := 5) (v := .int (nI (t_N 0))) (C := RX6) (T := TX6) (N := 15) hx hb hts hiX6 hown hK hP 0 rfl rfl 7 (Nat.le_of_ble_eq_true rfl) fl36 (fun _ h9 => h9) rfl dX6_justInAll_29 ?_
        refine lv_icmp_ge (tgt := 69) hx hb dX6_justInAll_32 rfl (fun c_8 => ?_) (fun c_8 => ?_)
        · have nc_8 : (t_N 0) ≤ kk := (nI_leI (a := (t_N 0)) (b := kk) (by omega) (by omega)).mp c_8
          refine lv_iinc (v := nI (q + 1)) (lv' := [(2, .int (nI (q + 1))), (4, .int (nI kk)), (3, .int more), (1, .int su2), (0, .ref t)]) hx hb dX6_justInAll_69 hl (k := 2) rfl (nI_add (q) 1) (Nat.le_of_ble_eq_true rfl) rfl (fun ls hl => ?_)
          refine lv_goto (tgt := 4) hx hb dX6_justInAll_72 rfl ?_
          exact ih4 (su2, q + 1) (by (try dsimp only); exact ⟨by omega, by rw [A_jiC, A_sp, hI.2.2.2, show kk - 1 = t_N 0 - 1 by omega, hJ9.2]; rfl⟩) (by (try dsimp only); omega) _ _ _ hP hD hS (lv_sub hl [0, 3, 4] rfl)
        · have nc_8 : ¬ (t_N 0) ≤ kk := fun hq9 => c_8 ((nI_leI (a := (t_N 0)) (b := kk) (by omega) (by omega)).mpr hq9)
          refine lv_iload_n hx hb dX6_justInAll_35 rfl (lv_at hl 1 rfl) ?_
          refine lv_iconst (v := 2) hx hb dX6_justInAll_36 hki_2 ?_
          refine lv_aload_n hx hb dX6_justInAll_37 rfl (lv_at hl 4 rfl) ?_
          refine lv_iload_n hx hb dX6_justInAll_38 rfl (lv_at hl 2 rfl) ?_
          refine lv_iload hx hb dX6_justInAll_39 (lv_at hl 0 rfl) ?_
          refine lv_iconst (v := 1) hx hb dX6_justInAll_41 hki_1 ?_
          refine lv_isub hx hb dX6_justInAll_42 ?_
          refine hs_topi (nI (kk - 1)) (pk_sub (a := kk) (b := 1) (by omega)) ?_
          refine hs_ciM (va_runV (As := [.int (nI q), .int (nI (kk - 1))]) (rest := [.int 2, .int more]) ⟨hx, hb, hml, hown, hts⟩ (gf_worthOfCell l D k _ t t_a t_N t_J t_F q (kk - 1) (by omega) (by omega)) (cwV 2 hts gX6_justInAll_X6_worthOfCell rfl rfl rfl ⟨rfl, hq_X6_worthOfCell⟩ ⟨Nat.le_of_ble_eq_true rfl, Nat.le_of_ble_eq_true rfl⟩) (hs_preV hK hN (hs_subP (w := [_, _, _, _, _, _, _, _]) hP [0, 1, 2, 3, 4, 5, 6, 7] rfl) (hD.sub (ws' := [_, _, _, _, _, _, _, _]) [0, 1, 2, 3, 4, 5, 6, 7] (hs_upnd rfl) rfl) (ci := 5) (q0 := 0) rfl rfl) rfl rfl hl.1 rfl (lv_room (Nat.le_of_ble_eq_true rfl)) dX6_justInAll_43 ⟨Nat.le_of_ble_eq_true rfl, Nat.le_of_ble_eq_true rfl⟩) hP hD hS hA [false, false, false, false, false, false, false, false] [] [_, _, _, _, _, _, _, _] rfl [0, 1, 2, 3, 4, 5, 6, 7] rfl [0, 1, 2, 3, 4, 5, 6, 7] (fun u_11 => [_, _, _, _, _, _, _, _]) (fun _ => rfl) (hs_upnd rfl) [false, false, false, false, false, false, false, false] (fun u_11 => [_, _, _, _, _, _, _, _]) (fun _ => rfl) (fun r_9 u_11 H locs hw_10 hP hD hS => ?_)
          refine hs_topi (A_wc (t_F 1 q) (t_F 0 (kk - 1)) (kk - 1)) hw_10 ?_
          refine lv_imul hx hb dX6_justInAll_46 ?_
          refine lv_iadd hx hb dX6_justInAll_47 ?_
          refine lv_istore_n (lv' := [(3, .int (more + (2 * (A_wc (t_F 1 q) (t_F 0 (kk - 1)) (kk - 1))))), (4, .int (nI kk)), (2, .int (nI q)), (1, .int su2), (0, .ref t)]) hx hb dX6_justInAll_48 rfl hl (Nat.le_of_ble_eq_true rfl) rfl (fun ls hl => ?_)
          refine lv_iload_n hx hb dX6_justInAll_49 rfl (lv_at hl 0 rfl) ?_
          refine va_mabs hx hb (hml.trans hl.1.symm) hown mm94 msabs mi mcabs (Nat.le_of_ble_eq_true rfl) (Nat.le_of_ble_eq_true rfl) (Nat.zero_le _) (Nat.zero_le _) dX6_justInAll_50 ?_
          refine lv_aload_n hx hb dX6_justInAll_53 rfl (lv_at hl 4 rfl) ?_
          refine va_get (D := D) (ci := 5) (v := .int (t_J 0)) (C := RX6) (T := TX6) (N := 15) hx hb hts hiX6 hown hK hP 0 rfl rfl 9 (Nat.le_of_ble_eq_true rfl) fl43 (fun _ h9 => h9) rfl dX6_justInAll_54 ?_
          refine lv_icmp_gt (tgt := 63) hx hb dX6_justInAll_57 rfl (fun c_12 => ?_) (fun c_12 => ?_)
          · refine lv_iinc (v := nI (kk + 1)) (lv' := [(4, .int (nI (kk + 1))), (3, .int (more + (2 * (A_wc (t_F 1 q) (t_F 0 (kk - 1)) (kk - 1))))), (2, .int (nI q)), (1, .int su2), (0, .ref t)]) hx hb dX6_justInAll_63 hl (k := 1) rfl (nI_add (kk) 1) (Nat.le_of_ble_eq_true rfl) rfl (fun ls hl => ?_)
            refine lv_goto (tgt := 26) hx hb dX6_justInAll_66 rfl ?_
            exact ih26 (su2, more + (2 * (A_wc (t_F 1 q) (t_F 0 (kk - 1)) (kk - 1))), kk + 1) (by (try dsimp only); have e9 : A_mr (A_fc t_F q) (A_ws (A_fc t_F q) (nI (2 ^ t_N 0 - 1)) (t_N 0)) kk = more + 2 * A_wc (t_F 1 q) (t_F 0 (kk - 1)) (kk - 1) := (by rw [A_mr_s hI.1, hI.2.2.1]; rfl); have d9 : A_di t_N t_J t_F kk q = 0 := (by rw [A_di, e9]; exact if_pos c_12); exact ⟨by omega, by omega, by rw [show kk + 1 - 1 = kk by omega, e9], by rw [A_sc_s hI.1, d9, hI.2.2.2]; rw [Int32.add_zero]⟩) (by (try dsimp only); omega) _ _ _ hP hD hS (lv_sub hl [0, 1, 2, 3, 4] rfl)
          · refine lv_iinc (v := su2 + 1) (lv' := [(1, .int (su2 + 1)), (3, .int (more + (2 * (A_wc (t_F 1 q) (t_F 0 (kk - 1)) (kk - 1))))), (4, .int (nI kk)), (2, .int (nI q)), (0, .ref t)]) hx hb dX6_justInAll_60 hl (k := 3) rfl rfl (Nat.le_of_ble_eq_true rfl) rfl (fun ls hl => ?_)
            refine lv_iinc (v := nI (kk + 1)) (lv' := [(4, .int (nI (kk + 1))), (1, .int (su2 + 1)), (3, .int (more + (2 * (A_wc (t_F 1 q) (t_F 0 (kk - 1)) (kk - 1))))), (2, .int (nI q)), (0, .ref t)]) hx hb dX6_justInAll_63 hl (k := 2) rfl (nI_add (kk) 1) (Nat.le_of_ble_eq_true rfl) rfl (fun ls hl => ?_)
            refine lv_goto (tgt := 26) hx hb dX6_justInAll_66 rfl ?_
            exact ih26 (su2 + 1, more + (2 * (A_wc (t_F 1 q) (t_F 0 (kk - 1)) (kk - 1))), kk + 1) (by (try dsimp only); have e9 : A_mr (A_fc t_F q) (A_ws (A_fc t_F q) (nI (2 ^ t_N 0 - 1)) (t_N 0)) kk = more + 2 * A_wc (t_F 1 q) (t_F 0 (kk - 1)) (kk - 1) := (by rw [A_mr_s hI.1, hI.2.2.1]; rfl); have d9 : A_di t_N t_J t_F kk q = 1 := (by rw [A_di, e9]; exact if_neg c_12); exact ⟨by omega, by omega, by rw [show kk + 1 - 1 = kk by omega, e9], by rw [A_sc_s hI.1, d9, hI.2.2.2]; rw [Int32.add_assoc]⟩) (by (try dsimp only); omega) _ _ _ hP hD hS (lv_sub hl [0, 2, 3, 1, 4] rfl)
      · (try dsimp only); exact ⟨by decide, by omega, rfl, (Int32.add_zero _).symm⟩
  · (try dsimp only); exact ⟨Nat.zero_le _, rfl⟩
