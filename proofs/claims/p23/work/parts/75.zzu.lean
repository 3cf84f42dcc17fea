set_option maxHeartbeats 4000000 in
set_option maxRecDepth 100000 in
theorem gf_choice (l : Launch) (D : va_G) (k : Nat → ClassId) (sz : Nat) (t : Nat) (t_a : Nat → Nat) (t_N : Nat → Nat) (t_J : Nat → Int32) (t_F : Nat → Nat → Int32) (j : Nat) (kk : Int32) (hN0 : thN t_N) (hj : j < 4) : MI l yX1_choice wsX1_choice ({ frames := 2, cells := 0, slots := 0, locals := 50 }) D k [.ref t, .int (nI j), .int kk] [oqT t t_a t_N t_J, oqF0 k t_a t_F, oqF1 k t_a t_F, oqF2 k t_a t_F, oqF3 k t_a t_F, oqF4 k t_a t_F, oqF5 k t_a t_F, oqF6 k t_a t_F] sz (fun (r : Int32) (u : Unit) => r = A_chC (A_fc t_F j) (t_N 0) kk) (fun (u : Unit) => [oqT t t_a t_N t_J, oqF0 k t_a t_F, oqF1 k t_a t_F, oqF2 k t_a t_F, oqF3 k t_a t_F, oqF4 k t_a t_F, oqF5 k t_a t_F, oqF6 k t_a t_F]) := by
  refine Met.ofW (cc := cX1_choice) (maxL := 4) (ret := (some .int)) hpn_X1 rfl ?_
  intro p e s m args below meth c s₁ B hml hv
  obtain ⟨rfl, hsz, hP, hK, hD0, hN⟩ := hv
  have hx := B.exec
  have hb := B.bytes
  have hr := B.returns
  have hlocks := B.notSynchronized
  have hts := atoms_spec (ws := wsX1_choice) B.pre
  have hown := findClass_of_methodNamed B.named
  have hown : s.vm.findClass RX1 = some m.cls := hown
  obtain ⟨I0, I1, ⟨I2, I2b⟩, I3, I4⟩ := hN0
  subst hsz
  have hD := hD0.self (sz := s.heap.size)
  generalize hAe : va_A [oqT t t_a t_N t_J, oqF0 k t_a t_F, oqF1 k t_a t_F, oqF2 k t_a t_F, oqF3 k t_a t_F, oqF4 k t_a t_F, oqF5 k t_a t_F, oqF6 k t_a t_F] s.heap.size = A at hD ⊢
  have hA : ∀ q : Nat, s.heap.size ≤ q → A q := fun q h => by rw [← hAe]; exact Or.inr h
  have hS : va_S A s.heap s.heap [] := va_S.rf
  have hl := lv_entry ([.ref t, .int (nI j), .int kk]) (n := 4) (Nat.le_of_ble_eq_true rfl)
  rw [lg_entry_eq]
  generalize (lg_sl ([.ref t, .int (nI j), .int kk]) ++ List.replicate (4 - (lg_sl ([.ref t, .int (nI j), .int kk])).length) Slot.unset).toArray = ls at hl ⊢
  have hl : lv_has ls 4 [(0, .ref t), (1, .int (nI j)), (2, .int kk)] := hl
  have hP : va_P D vwCl [oqT t t_a t_N t_J, oqF0 k t_a t_F, oqF1 k t_a t_F, oqF2 k t_a t_F, oqF3 k t_a t_F, oqF4 k t_a t_F, oqF5 k t_a t_F, oqF6 k t_a t_F] s.heap := hP
  refine lv_aload_n hx hb dX1_choice_0 rfl (lv_at hl 0 rfl) ?_
  refine lv_iload_n hx hb dX1_choice_1 rfl (lv_at hl 2 rfl) ?_
  refine hs_ciM (va_runV (As := [.int kk]) (rest := []) ⟨hx, hb, hml, hown, hts⟩ (gf_leftOf l D k _ t t_a t_N t_J kk) (cwV 1 hts gX1_choice_X6_leftOf rfl rfl rfl ⟨rfl, hq_X6_leftOf⟩ ⟨Nat.le_of_ble_eq_true rfl, Nat.le_of_ble_eq_true rfl⟩) (hs_preV hK hN (hs_subP (w := [_]) hP [0] rfl) (hD.sub (ws' := [_]) [0] (hs_upnd rfl) rfl) (ci := 5) (q0 := 0) rfl rfl) rfl rfl hl.1 rfl (lv_room (Nat.le_of_ble_eq_true rfl)) dX1_choice_2 ⟨Nat.le_of_ble_eq_true rfl, Nat.le_of_ble_eq_true rfl⟩) hP hD hS hA [false, true, true, true, true, true, true, true] [_, _, _, _, _, _, _] [_] rfl [0] rfl [0] (fun u_3 => [_]) (fun _ => rfl) (hs_upnd rfl) [false, true, true, true, true, true, true, true] (fun u_3 => [_, _, _, _, _, _, _, _]) (fun _ => rfl) (fun r_1 u_3 H locs hw_2 hP hD hS => ?_)
  refine hs_topi (A_lf kk) hw_2 ?_
  refine lv_istore_n (lv' := [(3, .int (A_lf kk)), (0, .ref t), (1, .int (nI j)), (2, .int kk)]) hx hb dX1_choice_5 rfl hl (Nat.le_of_ble_eq_true rfl) rfl (fun ls hl => ?_)
  refine lv_aload_n hx hb dX1_choice_6 rfl (lv_at hl 1 rfl) ?_
  refine lv_iload_n hx hb dX1_choice_7 rfl (lv_at hl 2 rfl) ?_
  refine lv_iload_n hx hb dX1_choice_8 rfl (lv_at hl 0 rfl) ?_
  refine hs_ciM (va_runV (As := [.int (nI j), .int (A_lf kk)]) (rest := []) ⟨hx, hb, hml, hown, hts⟩ (gf_lead l D k _ t t_a t_N t_J t_F j (A_lf kk) (by first | assumption | exact ⟨by first | omega | (dsimp; omega), by first | omega | (dsimp; omega), ⟨by first | omega | (dsimp; omega), by first | omega | (dsimp; omega)⟩, by first | omega | (dsimp; omega), by first | omega | (dsimp; omega)⟩) (by omega)) (cwV 2 hts gX1_choice_X6_lead rfl rfl rfl ⟨rfl, hq_X6_lead⟩ ⟨Nat.le_of_ble_eq_true rfl, Nat.le_of_ble_eq_true rfl⟩) (hs_preV hK hN (hs_subP (w := [_, _, _, _, _, _, _, _]) hP [0, 1, 2, 3, 4, 5, 6, 7] rfl) (hD.sub (ws' := [_, _, _, _, _, _, _, _]) [0, 1, 2, 3, 4, 5, 6, 7] (hs_upnd rfl) rfl) (ci := 5) (q0 := 0) rfl rfl) rfl rfl hl.1 rfl (lv_room (Nat.le_of_ble_eq_true rfl)) dX1_choice_9 ⟨Nat.le_of_ble_eq_true rfl, Nat.le_of_ble_eq_true rfl⟩) hP hD hS hA [false, false, false, false, false, false, false, false] [] [_, _, _, _, _, _, _, _] rfl [0, 1, 2, 3, 4, 5, 6, 7] rfl [0, 1, 2, 3, 4, 5, 6, 7] (fun u_6 => [_, _, _, _, _, _, _, _]) (fun _ => rfl) (hs_upnd rfl) [false, false, false, false, false, false, false, false] (fun u_6 => [_, _, _, _, _, _, _, _]) (fun _ => rfl) (fun r_4 u_6 H locs hw_5 hP hD hS => ?_)
  refine hs_topi (A_ld (A_fc t_F j) (A_lf kk) (t_N 0)) hw_5 ?_
  refine lv_if_lt (tgt := 19) hx hb dX1_choice_12 rfl (fun c_7 => ?_) (fun c_7 => ?_)
  · refine lv_aload_n hx hb dX1_choice_19 rfl (lv_at hl 1 rfl) ?_
    refine hs_ciM (va_runV (As := []) (rest := []) ⟨hx, hb, hml, hown, hts⟩ (g_allCells l D k _ t t_a t_N t_J (by first | assumption | exact ⟨by first | omega | (dsimp; omega), by first | omega | (dsimp; omega), ⟨by first | omega | (dsimp; omega), by first | omega | (dsimp; omega)⟩, by first | omega | (dsimp; omega), by first | omega | (dsimp; omega)⟩)) (cwV 0 hts gX1_choice_X6_allCells rfl rfl rfl ⟨rfl, hq_X6_allCells⟩ ⟨Nat.le_of_ble_eq_true rfl, Nat.le_of_ble_eq_true rfl⟩) (hs_preV hK hN (hs_subP (w := [_]) hP [0] rfl) (hD.sub (ws' := [_]) [0] (hs_upnd rfl) rfl) (ci := 5) (q0 := 0) rfl rfl) rfl rfl hl.1 rfl (lv_room (Nat.le_of_ble_eq_true rfl)) dX1_choice_20 ⟨Nat.le_of_ble_eq_true rfl, Nat.le_of_ble_eq_true rfl⟩) hP hD hS hA [false, true, true, true, true, true, true, true] [_, _, _, _, _, _, _] [_] rfl [0] rfl [0] (fun u_10 => [_]) (fun _ => rfl) (hs_upnd rfl) [false, true, true, true, true, true, true, true] (fun u_10 => [_, _, _, _, _, _, _, _]) (fun _ => rfl) (fun r_8 u_10 H locs hw_9 hP hD hS => ?_)
    refine hs_topi (nI (2 ^ (t_N 0) - 1)) hw_9 ?_
    refine lv_iload_n hx hb dX1_choice_23 rfl (lv_at hl 0 rfl) ?_
    refine lv_iconst (v := (-1)) hx hb dX1_choice_24 hki_m1 ?_
    refine lv_ixor hx hb dX1_choice_25 ?_
    refine lv_iand hx hb dX1_choice_26 ?_
    exact hs_iret hx hb hr hlocks hK hP hD hS () [0, 1, 2, 3, 4, 5, 6, 7] rfl (hs_upnd rfl) dX1_choice_27 ((by rw [A_chC, if_pos c_7]))
  · refine lv_iload_n hx hb dX1_choice_15 rfl (lv_at hl 0 rfl) ?_
    refine lv_goto (tgt := 27) hx hb dX1_choice_16 rfl ?_
    exact hs_iret hx hb hr hlocks hK hP hD hS () [0, 1, 2, 3, 4, 5, 6, 7] rfl (hs_upnd rfl) dX1_choice_27 ((by rw [A_chC, if_neg c_7]))

set_option maxHeartbeats 4000000 in
set_option maxRecDepth 100000 in
theorem gf_leftOver (l : Launch) (D : va_G) (k : Nat → ClassId) (sz : Nat) (t : Nat) (t_a : Nat → Nat) (t_N : Nat → Nat) (t_J : Nat → Int32) (t_F : Nat → Nat → Int32) (j : Nat) (j2 : Nat) (kk : Int32) (hN0 : thN t_N) (hj : j < 4) (hj2 : j2 < 4) : MI l yX1_leftOver wsX1_leftOver ({ frames := 3, cells := 0, slots := 0, locals := 73 }) D k [.ref t, .int (nI j), .int (nI j2), .int kk] [oqT t t_a t_N t_J, oqF0 k t_a t_F, oqF1 k t_a t_F, oqF2 k t_a t_F, oqF3 k t_a t_F, oqF4 k t_a t_F, oqF5 k t_a t_F, oqF6 k t_a t_F] sz (fun (r : Int32) (u : Unit) => r = A_loC (A_fc t_F j) (A_fc t_F j2) (t_N 0) kk) (fun (u : Unit) => [oqT t t_a t_N t_J, oqF0 k t_a t_F, oqF1 k t_a t_F, oqF2 k t_a t_F, oqF3 k t_a t_F, oqF4 k t_a t_F, oqF5 k t_a t_F, oqF6 k t_a t_F]) := by
  refine Met.ofW (cc := cX1_leftOver) (maxL := 4) (ret := (some .int)) hpn_X1 rfl ?_
  intro p e s m args below meth c s₁ B hml hv
  obtain ⟨rfl, hsz, hP, hK, hD0, hN⟩ := hv
  have hx := B.exec
  have hb := B.bytes
  have hr := B.returns
  have hlocks := B.notSynchronized
  have hts := atoms_spec (ws := wsX1_leftOver) B.pre
  have hown := findClass_of_methodNamed B.named
  have hown : s.vm.findClass RX1 = some m.cls := hown
  obtain ⟨I0, I1, ⟨I2, I2b⟩, I3, I4⟩ := hN0
  subst hsz
  have hD := hD0.self (sz := s.heap.size)
  generalize hAe : va_A [oqT t t_a t_N t_J, oqF0 k t_a t_F, oqF1 k t_a t_F, oqF2 k t_a t_F, oqF3 k t_a t_F, oqF4 k t_a t_F, oqF5 k t_a t_F, oqF6 k t_a t_F] s.heap.size = A at hD ⊢
  have hA : ∀ q : Nat, s.heap.size ≤ q → A q := fun q h => by rw [← hAe]; exact Or.inr h
  have hS : va_S A s.heap s.heap [] := va_S.rf
  have hl := lv_entry ([.ref t, .int (nI j), .int (nI j2), .int kk]) (n := 4) (Nat.le_of_ble_eq_true rfl)
  rw [lg_entry_eq]
  generalize (lg_sl ([.ref t, .int (nI j), .int (nI j2), .int kk]) ++ List.replicate (4 - (lg_sl ([.ref t, .int (nI j), .int (nI j2), .int kk])).length) Slot.unset).toArray = ls at hl ⊢
  have hl : lv_has ls 4 [(0, .ref t), (1, .int (nI j)), (2, .int (nI j2)), (3, .int kk)] := hl
  have hP : va_P D vwCl [oqT t t_a t_N t_J, oqF0 k t_a t_F, oqF1 k t_a t_F, oqF2 k t_a t_F, oqF3 k t_a t_F, oqF4 k t_a t_F, oqF5 k t_a t_F, oqF6 k t_a t_F] s.heap := hP
  refine lv_aload_n hx hb dX1_leftOver_0 rfl (lv_at hl 0 rfl) ?_
  refine lv_iload_n hx hb dX1_leftOver_1 rfl (lv_at hl 1 rfl) ?_
  refine lv_aload_n hx hb dX1_leftOver_2 rfl (lv_at hl 0 rfl) ?_
  refine hs_ciM (va_runV (As := []) (rest := [.int (nI j), .ref t]) ⟨hx, hb, hml, hown, hts⟩ (g_allCells l D k _ t t_a t_N t_J (by first | assumption | exact ⟨by first | omega | (dsimp; omega), by first | omega | (dsimp; omega), ⟨by first | omega | (dsimp; omega), by first | omega | (dsimp; omega)⟩, by first | omega | (dsimp; omega), by first | omega | (dsimp; omega)⟩)) (cwV 0 hts gX1_leftOver_X6_allCells rfl rfl rfl ⟨rfl, hq_X6_allCells⟩ ⟨Nat.le_of_ble_eq_true rfl, Nat.le_of_ble_eq_true rfl⟩) (hs_preV hK hN (hs_subP (w := [_]) hP [0] rfl) (hD.sub (ws' := [_]) [0] (hs_upnd rfl) rfl) (ci := 5) (q0 := 0) rfl rfl) rfl rfl hl.1 rfl (lv_room (Nat.le_of_ble_eq_true rfl)) dX1_leftOver_3 ⟨Nat.le_of_ble_eq_true rfl, Nat.le_of_ble_eq_true rfl⟩) hP hD hS hA [false, true, true, true, true, true, true, true] [_, _, _, _, _, _, _] [_] rfl [0] rfl [0] (fun u_3 => [_]) (fun _ => rfl) (hs_upnd rfl) [false, true, true, true, true, true, true, true] (fun u_3 => [_, _, _, _, _, _, _, _]) (fun _ => rfl) (fun r_1 u_3 H locs hw_2 hP hD hS => ?_)
  refine hs_topi (nI (2 ^ (t_N 0) - 1)) hw_2 ?_
  refine lv_aload_n hx hb dX1_leftOver_6 rfl (lv_at hl 0 rfl) ?_
  refine lv_iload_n hx hb dX1_leftOver_7 rfl (lv_at hl 2 rfl) ?_
  refine lv_iload_n hx hb dX1_leftOver_8 rfl (lv_at hl 3 rfl) ?_
  refine hs_ciM (va_runS (As := [.ref t, .int (nI j2), .int kk]) (rest := [.int (nI (2 ^ (t_N 0) - 1)), .int (nI j), .ref t]) ⟨hx, hb, hml, hown, hts⟩ (gf_choice l D k _ t t_a t_N t_J t_F j2 kk (by first | assumption | exact ⟨by first | omega | (dsimp; omega), by first | omega | (dsimp; omega), ⟨by first | omega | (dsimp; omega), by first | omega | (dsimp; omega)⟩, by first | omega | (dsimp; omega), by first | omega | (dsimp; omega)⟩) (by omega)) (va_cwS 3 hts gX1_leftOver_X1_choice rfl rfl rfl hq_X1_choice ⟨Nat.le_of_ble_eq_true rfl, Nat.le_of_ble_eq_true rfl⟩) (hs_preS hK hN (hs_subP (w := [_, _, _, _, _, _, _, _]) hP [0, 1, 2, 3, 4, 5, 6, 7] rfl) (hD.sub (ws' := [_, _, _, _, _, _, _, _]) [0, 1, 2, 3, 4, 5, 6, 7] (hs_upnd rfl) rfl)) rfl rfl hl.1 rfl (lv_room (Nat.le_of_ble_eq_true rfl)) dX1_leftOver_9 ⟨Nat.le_of_ble_eq_true rfl, Nat.le_of_ble_eq_true rfl⟩) hP hD hS hA [false, false, false, false, false, false, false, false] [] [_, _, _, _, _, _, _, _] rfl [0, 1, 2, 3, 4, 5, 6, 7] rfl [0, 1, 2, 3, 4, 5, 6, 7] (fun u_6 => [_, _, _, _, _, _, _, _]) (fun _ => rfl) (hs_upnd rfl) [false, false, false, false, false, false, false, false] (fun u_6 => [_, _, _, _, _, _, _, _]) (fun _ => rfl) (fun r_4 u_6 H locs hw_5 hP hD hS => ?_)
  refine hs_topi (A_chC (A_fc t_F j2) (t_N 0) kk) hw_5 ?_
  refine lv_iconst (v := (-1)) hx hb dX1_leftOver_12 hki_m1 ?_
  refine lv_ixor hx hb dX1_leftOver_13 ?_
  refine lv_iand hx hb dX1_leftOver_14 ?_
  refine hs_ciM (va_runV (As := [.int (nI j), .int ((nI (2 ^ (t_N 0) - 1)) &&& ((A_chC (A_fc t_F j2) (t_N 0) kk) ^^^ (-1)))]) (rest := []) ⟨hx, hb, hml, hown, hts⟩ (gf_worthOf l D k _ t t_a t_N t_J t_F j ((nI (2 ^ (t_N 0) - 1)) &&& ((A_chC (A_fc t_F j2) (t_N 0) kk) ^^^ (-1))) (by first | assumption | exact ⟨by first | omega | (dsimp; omega), by first | omega | (dsimp; omega), ⟨by first | omega | (dsimp; omega), by first | omega | (dsimp; omega)⟩, by first | omega | (dsimp; omega), by first | omega | (dsimp; omega)⟩) (by omega)) (cwV 2 hts gX1_leftOver_X6_worthOf rfl rfl rfl ⟨rfl, hq_X6_worthOf⟩ ⟨Nat.le_of_ble_eq_true rfl, Nat.le_of_ble_eq_true rfl⟩) (hs_preV hK hN (hs_subP (w := [_, _, _, _, _, _, _, _]) hP [0, 1, 2, 3, 4, 5, 6, 7] rfl) (hD.sub (ws' := [_, _, _, _, _, _, _, _]) [0, 1, 2, 3, 4, 5, 6, 7] (hs_upnd rfl) rfl) (ci := 5) (q0 := 0) rfl rfl) rfl rfl hl.1 rfl (lv_room (Nat.le_of_ble_eq_true rfl)) dX1_leftOver_15 ⟨Nat.le_of_ble_eq_true rfl, Nat.le_of_ble_eq_true rfl⟩) hP hD hS hA [false, false, false, false, false, false, false, false] [] [_, _, _, _, _, _, _, _] rfl [0, 1, 2, 3, 4, 5, 6, 7] rfl [0, 1, 2, 3, 4, 5, 6, 7] (fun u_9 => [_, _, _, _, _, _, _, _]) (fun _ => rfl) (hs_upnd rfl) [false, false, false, false, false, false, false, false] (fun u_9 => [_, _, _, _, _, _, _, _]) (fun _ => rfl) (fun r_7 u_9 H locs hw_8 hP hD hS => ?_)
  refine hs_topi (A_ws (A_fc t_F j) ((nI (2 ^ (t_N 0) - 1)) &&& ((A_chC (A_fc t_F j2) (t_N 0) kk) ^^^ (-1))) (t_N 0)) hw_8 ?_
  exact hs_iret hx hb hr hlocks hK hP hD hS () [0, 1, 2, 3, 4, 5, 6, 7] rfl (hs_upnd rfl) dX1_leftOver_18 (rfl)

set_option maxHeartbeats 4000000 in
set_option maxRecDepth 100000 in
theorem gf_slyCut (l : Launch) (D : va_G) (k : Nat → ClassId) (sz : Nat) (t : Nat) (t_a : Nat → Nat) (t_N : Nat → Nat) (t_J : Nat → Int32) (t_F : Nat → Nat → Int32) (j : Nat) (j2 : Nat) (hN0 : thN t_N) (hj : j < 4) (hj2 : j2 < 4) : MI l yX1_slyCut wsX1_slyCut ({ frames := 4, cells := 0, slots := 0, locals := 96 }) D k [.ref t, .int (nI j), .int (nI j2)] [oqT t t_a t_N t_J, oqF0 k t_a t_F, oqF1 k t_a t_F, oqF2 k t_a t_F, oqF3 k t_a t_F, oqF4 k t_a t_F, oqF5 k t_a t_F, oqF6 k t_a t_F] sz (fun (r : Int32) (u : Unit) => r = (A_mxC (A_slC t_N t_F j j2) (t_N 0 - 2)).1) (fun (u : Unit) => [oqT t t_a t_N t_J, oqF0 k t_a t_F, oqF1 k t_a t_F, oqF2 k t_a t_F, oqF3 k t_a t_F, oqF4 k t_a t_F, oqF5 k t_a t_F, oqF6 k t_a t_F]) := by
  refine Met.ofW (cc := cX1_slyCut) (maxL := 7) (ret := (some .int)) hpn_X1 rfl ?_
  intro p e s m args below meth c s₁ B hml hv
  obtain ⟨rfl, hsz, hP, hK, hD0, hN⟩ := hv
  have hx := B.exec
  have hb := B.bytes
  have hr := B.returns
  have hlocks := B.notSynchronized
  have hts := atoms_spec (ws := wsX1_slyCut) B.pre
  have hown := findClass_of_methodNamed B.named
  have hown : s.vm.findClass RX1 = some m.cls := hown
  have hiX6 : ∀ w ∈ u_ws RX6 TX6 15, w ∈ wsX1_slyCut := fun w9 hw9 => List.mem_cons_of_mem _ (igX6 w9 hw9)
  have fl24 := hts (.fieldLink RX1 24 "HalfScales$Thing" "cellCount" "I") (List.mem_cons_of_mem _ (hs_inG 1 52 rfl rfl))
  obtain ⟨I0, I1, ⟨I2, I2b⟩, I3, I4⟩ := hN0
  subst hsz
  have hD := hD0.self (sz := s.heap.size)
  generalize hAe : va_A [oqT t t_a t_N t_J, oqF0 k t_a t_F, oqF1 k t_a t_F, oqF2 k t_a t_F, oqF3 k t_a t_F, oqF4 k t_a t_F, oqF5 k t_a t_F, oqF6 k t_a t_F] s.heap.size = A at hD ⊢
  have hA : ∀ q : Nat, s.heap.size ≤ q → A q := fun q h => by rw [← hAe]; exact Or.inr h
  have hS : va_S A s.heap s.heap [] := va_S.rf
  have hl := lv_entry ([.ref t, .int (nI j), .int (nI j2)]) (n := 7) (Nat.le_of_ble_eq_true rfl)
  rw [lg_entry_eq]
  generalize (lg_sl ([.ref t, .int (nI j), .int (nI j2)]) ++ List.replicate (7 - (lg_sl ([.ref t, .int (nI j), .int (nI j2)])).length) Slot.unset).toArray = ls at hl ⊢
  have hl : lv_has ls 7 [(0, .ref t), (1, .int (nI j)), (2, .int (nI j2))] := hl
  have hP : va_P D vwCl [oqT t t_a t_N t_J, oqF0 k t_a t_F, oqF1 k t_a t_F, oqF2 k t_a t_F, oqF3 k t_a t_F, oqF4 k t_a t_F, oqF5 k t_a t_F, oqF6 k t_a t_F] s.heap := hP
  refine lv_iconst (v := 1) hx hb dX1_slyCut_0 hki_1 ?_
  refine lv_istore_n (lv' := [(3, .int 1), (0, .ref t), (1, .int (nI j)), (2, .int (nI j2))]) hx hb dX1_slyCut_1 rfl hl (Nat.le_of_ble_eq_true rfl) rfl (fun ls hl => ?_)
  refine lv_aload_n hx hb dX1_slyCut_2 rfl (lv_at hl 1 rfl) ?_
  refine lv_iload_n hx hb dX1_slyCut_3 rfl (lv_at hl 2 rfl) ?_
  refine lv_iload_n hx hb dX1_slyCut_4 rfl (lv_at hl 3 rfl) ?_
  refine lv_iconst (v := 1) hx hb dX1_slyCut_5 hki_1 ?_
  refine hs_ciM (va_runS (As := [.ref t, .int (nI j), .int (nI j2), .int 1]) (rest := []) ⟨hx, hb, hml, hown, hts⟩ (gf_leftOver l D k _ t t_a t_N t_J t_F j j2 1 (by first | assumption | exact ⟨by first | omega | (dsimp; omega), by first | omega | (dsimp; omega), ⟨by first | omega | (dsimp; omega), by first | omega | (dsimp; omega)⟩, by first | omega | (dsimp; omega), by first | omega | (dsimp; omega)⟩) (by omega) (by omega)) (va_cwS 4 hts gX1_slyCut_X1_leftOver rfl rfl rfl hq_X1_leftOver ⟨Nat.le_of_ble_eq_true rfl, Nat.le_of_ble_eq_true rfl⟩) (hs_preS hK hN (hs_subP (w := [_, _, _, _, _, _, _, _]) hP [0, 1, 2, 3, 4, 5, 6, 7] rfl) (hD.sub (ws' := [_, _, _, _, _, _, _, _]) [0, 1, 2, 3, 4, 5, 6, 7] (hs_upnd rfl) rfl)) rfl rfl hl.1 rfl (lv_room (Nat.le_of_ble_eq_true rfl)) dX1_slyCut_6 ⟨Nat.le_of_ble_eq_true rfl, Nat.le_of_ble_eq_true rfl⟩) hP hD hS hA [false, false, false, false, false, false, false, false] [] [_, _, _, _, _, _, _, _] rfl [0, 1, 2, 3, 4, 5, 6, 7] rfl [0, 1, 2, 3, 4, 5, 6, 7] (fun u_3 => [_, _, _, _, _, _, _, _]) (fun _ => rfl) (hs_upnd rfl) [false, false, false, false, false, false, false, false] (fun u_3 => [_, _, _, _, _, _, _, _]) (fun _ => rfl) (fun r_1 u_3 H locs hw_2 hP hD hS => ?_)
  refine hs_topi (A_loC (A_fc t_F j) (A_fc t_F j2) (t_N 0) 1) hw_2 ?_
  refine lv_istore (lv' := [(4, .int (A_loC (A_fc t_F j) (A_fc t_F j2) (t_N 0) 1)), (3, .int 1), (0, .ref t), (1, .int (nI j)), (2, .int (nI j2))]) hx hb dX1_slyCut_9 hl (Nat.le_of_ble_eq_true rfl) rfl (fun ls hl => ?_)
  refine lv_iconst (v := 2) hx hb dX1_slyCut_11 hki_2 ?_
  refine lv_istore (lv' := [(5, .int 2), (4, .int (A_loC (A_fc t_F j) (A_fc t_F j2) (t_N 0) 1)), (3, .int 1), (0, .ref t), (1, .int (nI j)), (2, .int (nI j2))]) hx hb dX1_slyCut_12 hl (Nat.le_of_ble_eq_true rfl) rfl (fun ls hl => ?_)
  refine hs_while (σ := Int32 × Int32 × Nat) (fun x => 2 ≤ x.2.2 ∧ x.2.2 - 2 ≤ t_N 0 - 2 ∧ x.1 = (A_mxC (A_slC t_N t_F j j2) (x.2.2 - 2)).1 ∧ x.2.1 = (A_mxC (A_slC t_N t_F j j2) (x.2.2 - 2)).2) (fun x => t_N 0 + 2 - x.2.2) (fun x => [oqT t t_a t_N t_J, oqF0 k t_a t_F, oqF1 k t_a t_F, oqF2 k t_a t_F, oqF3 k t_a t_F, oqF4 k t_a t_F, oqF5 k t_a t_F, oqF6 k t_a t_F]) (fun x => [(5, .int (nI (x.2.2))), (4, .int (x.2.1)), (3, .int (x.1)), (0, .ref t), (1, .int (nI j)), (2, .int (nI j2))]) ?_ (1, A_loC (A_fc t_F j) (A_fc t_F j2) (t_N 0) 1, 2) ?_ hP hD hS hl
  · intro x hI ih14 H locs ls hP hD hS hl
    obtain ⟨best, most, kk⟩ := x
    try dsimp only at hI
    have hP : va_P D vwCl [_, _, _, _, _, _, _, _] H := hP
    have hD : va_D A [_, _, _, _, _, _, _, _] := hD
    have hl : lv_has ls 7 [(5, .int (nI kk)), (4, .int most), (3, .int best), (0, .ref t), (1, .int (nI j)), (2, .int (nI j2))] := hl
    refine lv_iload hx hb dX1_slyCut_14 (lv_at hl 0 rfl) ?_
    refine lv_aload_n hx hb dX1_slyCut_16 rfl (lv_at hl 3 rfl) ?_
    refine va_get (D := D) (ci := 5) (v := .int (nI (t_N 0))) (C := RX6) (T := TX6) (N := 15) hx hb hts hiX6 hown hK hP 0 rfl rfl 7 (Nat.le_of_ble_eq_true rfl) fl24 (fun _ h9 => h9) rfl dX1_slyCut_17 ?_
    refine lv_icmp_ge (tgt := 53) hx hb dX1_slyCut_20 rfl (fun c_4 => ?_) (fun c_4 => ?_)
    · have nc_4 : (t_N 0) ≤ kk := (nI_leI (a := (t_N 0)) (b := kk) (by omega) (by omega)).mp c_4
      refine lv_iload_n hx hb dX1_slyCut_53 rfl (lv_at hl 2 rfl) ?_
      exact hs_iret hx hb hr hlocks hK hP hD hS () [0, 1, 2, 3, 4, 5, 6, 7] rfl (hs_upnd rfl) dX1_slyCut_54 ((by rw [hI.2.2.1, show kk - 2 = t_N 0 - 2 by omega]))
    · have nc_4 : ¬ (t_N 0) ≤ kk := fun hq9 => c_4 ((nI_leI (a := (t_N 0)) (b := kk) (by omega) (by omega)).mpr hq9)
      refine lv_aload_n hx hb dX1_slyCut_23 rfl (lv_at hl 3 rfl) ?_
      refine lv_iload_n hx hb dX1_slyCut_24 rfl (lv_at hl 4 rfl) ?_
      refine lv_iload_n hx hb dX1_slyCut_25 rfl (lv_at hl 5 rfl) ?_
      refine lv_iload hx hb dX1_slyCut_26 (lv_at hl 0 rfl) ?_
      refine hs_ciM (va_runS (As := [.ref t, .int (nI j), .int (nI j2), .int (nI kk)]) (rest := []) ⟨hx, hb, hml, hown, hts⟩ (gf_leftOver l D k _ t t_a t_N t_J t_F j j2 (nI kk) (by first | assumption | exact ⟨by first | omega | (dsimp; omega), by first | omega | (dsimp; omega), ⟨by first | omega | (dsimp; omega), by first | omega | (dsimp; omega)⟩, by first | omega | (dsimp; omega), by first | omega | (dsimp; omega)⟩) (by omega) (by omega)) (va_cwS 4 hts gX1_slyCut_X1_leftOver rfl rfl rfl hq_X1_leftOver ⟨Nat.le_of_ble_eq_true rfl, Nat.le_of_ble_eq_true rfl⟩) (hs_preS hK hN (hs_subP (w := [_, _, _, _, _, _, _, _]) hP [0, 1, 2, 3, 4, 5, 6, 7] rfl) (hD.sub (ws' := [_, _, _, _, _, _, _, _]) [0, 1, 2, 3, 4, 5, 6, 7] (hs_upnd rfl) rfl)) rfl rfl hl.1 rfl (lv_room (Nat.le_of_ble_eq_true rfl)) dX1_slyCut_28 ⟨Nat.le_of_ble_eq_true rfl, Nat.le_of_ble_eq_true rfl⟩) hP hD hS hA [false, false, false, false, false, false, false, false] [] [_, _, _, _, _, _, _, _] rfl [0, 1, 2, 3, 4, 5, 6, 7] rfl [0, 1, 2, 3, 4, 5, 6, 7] (fun u_7 => [_, _, _, _, _, _, _, _]) (fun _ => rfl) (hs_upnd rfl) [false, false, false, false, false, false, false, false] (fun u_7 => [_, _, _, _, _, _, _, _]) (fun _ => rfl) (fun r_5 u_7 H locs hw_6 hP hD hS => ?_)
      refine hs_topi (A_loC (A_fc t_F j) (A_fc t_F j2) (t_N 0) (nI kk)) hw_6 ?_
      refine lv_istore (lv' := [(6, .int (A_loC (A_fc t_F j) (A_fc t_F j2) (t_N 0) (nI kk))), (5, .int (nI kk)), (4, .int most), (3, .int best), (0, .ref t), (1, .int (nI j)), (2, .int (nI j2))]) hx hb dX1_slyCut_31 hl (Nat.le_of_ble_eq_true rfl) rfl (fun ls hl => ?_)
      refine lv_iload hx hb dX1_slyCut_33 (lv_at hl 0 rfl) ?_
      refine lv_iload hx hb dX1_slyCut_35 (lv_at hl 2 rfl) ?_
      refine lv_icmp_le (tgt := 47) hx hb dX1_slyCut_37 rfl (fun c_8 => ?_) (fun c_8 => ?_)
      · refine lv_iinc (v := nI (kk + 1)) (lv' := [(5, .int (nI (kk + 1))), (6, .int (A_loC (A_fc t_F j) (A_fc t_F j2) (t_N 0) (nI kk))), (4, .int most), (3, .int best), (0, .ref t), (1, .int (nI j)), (2, .int (nI j2))]) hx hb dX1_slyCut_47 hl (k := 1) rfl (nI_add (kk) 1) (Nat.le_of_ble_eq_true rfl) rfl (fun ls hl => ?_)
        refine lv_goto (tgt := 14) hx hb dX1_slyCut_50 rfl ?_
        exact ih14 (best, most, kk + 1) (by (try dsimp only); exact ⟨by omega, by omega, by rw [A_mxC_s _ hI.1, if_neg (show ¬ (A_mxC (A_slC t_N t_F j j2) (kk - 2)).2 < (A_slC t_N t_F j j2) kk by rw [← hI.2.2.2]; exact Int32.not_lt.mpr c_8)]; exact hI.2.2.1, by rw [A_mxC_s _ hI.1, if_neg (show ¬ (A_mxC (A_slC t_N t_F j j2) (kk - 2)).2 < (A_slC t_N t_F j j2) kk by rw [← hI.2.2.2]; exact Int32.not_lt.mpr c_8)]; exact hI.2.2.2⟩) (by (try dsimp only); omega) _ _ _ hP hD hS (lv_sub hl [0, 2, 3, 4, 5, 6] rfl)
      · refine lv_iload hx hb dX1_slyCut_40 (lv_at hl 1 rfl) ?_
        refine lv_istore_n (lv' := [(3, .int (nI kk)), (6, .int (A_loC (A_fc t_F j) (A_fc t_F j2) (t_N 0) (nI kk))), (5, .int (nI kk)), (4, .int most), (0, .ref t), (1, .int (nI j)), (2, .int (nI j2))]) hx hb dX1_slyCut_42 rfl hl (Nat.le_of_ble_eq_true rfl) rfl (fun ls hl => ?_)
        refine lv_iload hx hb dX1_slyCut_43 (lv_at hl 1 rfl) ?_
        refine lv_istore (lv' := [(4, .int (A_loC (A_fc t_F j) (A_fc t_F j2) (t_N 0) (nI kk))), (3, .int (nI kk)), (6, .int (A_loC (A_fc t_F j) (A_fc t_F j2) (t_N 0) (nI kk))), (5, .int (nI kk)), (0, .ref t), (1, .int (nI j)), (2, .int (nI j2))]) hx hb dX1_slyCut_45 hl (Nat.le_of_ble_eq_true rfl) rfl (fun ls hl => ?_)
        refine lv_iinc (v := nI (kk + 1)) (lv' := [(5, .int (nI (kk + 1))), (4, .int (A_loC (A_fc t_F j) (A_fc t_F j2) (t_N 0) (nI kk))), (3, .int (nI kk)), (6, .int (A_loC (A_fc t_F j) (A_fc t_F j2) (t_N 0) (nI kk))), (0, .ref t), (1, .int (nI j)), (2, .int (nI j2))]) hx hb dX1_slyCut_47 hl (k := 3) rfl (nI_add (kk) 1) (Nat.le_of_ble_eq_true rfl) rfl (fun ls hl => ?_)
        refine lv_goto (tgt := 14) hx hb dX1_slyCut_50 rfl ?_
        exact ih14 (nI kk, A_loC (A_fc t_F j) (A_fc t_F j2) (t_N 0) (nI kk), kk + 1) (by (try dsimp only); exact ⟨by omega, by omega, by rw [A_mxC_s _ hI.1, if_pos (show (A_mxC (A_slC t_N t_F j j2) (kk - 2)).2 < (A_slC t_N t_F j j2) kk by rw [← hI.2.2.2]; exact Int32.not_le.mp c_8)]; try rfl, by rw [A_mxC_s _ hI.1, if_pos (show (A_mxC (A_slC t_N t_F j j2) (kk - 2)).2 < (A_slC t_N t_F j j2) kk by rw [← hI.2.2.2]; exact Int32.not_le.mp c_8)]; try rfl⟩) (by (try dsimp only); omega) _ _ _ hP hD hS (lv_sub hl [0, 1, 2, 4, 5, 6] rfl)
  · (try dsimp only); exact ⟨by decide, by omega, rfl, rfl⟩

set_option maxHeartbeats 4000000 in
set_option maxRecDepth 100000 in
theorem gr_takenBy (l : Launch) (D : va_G) (k : Nat → ClassId) (sz : Nat) (mo : Nat) (mo_st : Nat) (mo_at : Nat) (mo_isKept : Nat) (mo_pe : Nat) (mo_hm : Nat) (mo_draft : Nat) (mo_dp : Nat) (mo_dh : Nat) (mo_toldLines : Int32) (mo_highest : Int32) (mo_tape : Nat) (mo_tl : Nat) (mo_ps : Nat) (mo_fr : Nat) (mo_sort : Int32) (mo_value : Int32) (mo_ft : Nat) (mo_wrongAt : Int32) (mo_row : Nat) (mo_orderMany : Int32) (mo_fo : Nat) (mo_lightest : Int32) (mo_heaviest : Int32) (mo_before : Nat) (mo_justSum : Int64) (mo_toldSum : Int64) (mo_allWays : Int64) (mo_lanes : Nat) (mo_sizes : Nat) (mo_cells : Nat) (mo_torn : Int32) (mo_had : Nat) (af : Nat → Int32) (c0 : Nat) (j : Nat) (kk : Int32) (e0 : af 0 = nI c0) (h0 : c0 ≤ 8) (hj : j < 4) : MI l yX8_takenBy wsX8_takenBy ({ frames := 3, cells := 0, slots := 0, locals := 70 }) D k [.ref mo, .int (nI j), .int kk] [oq7 mo mo_st mo_at mo_isKept (nI mo_pe) (nI mo_hm) mo_draft (nI mo_dp) (nI mo_dh) mo_toldLines mo_highest mo_tape (nI mo_tl) (nI mo_ps) (nI mo_fr) mo_sort mo_value (nI mo_ft) mo_wrongAt mo_row mo_orderMany (nI mo_fo) mo_lightest mo_heaviest mo_before mo_justSum mo_toldSum mo_allWays mo_lanes mo_sizes mo_cells mo_torn mo_had, oqI k mo_at 44 (af)] sz (fun (r : Int32) (u : Unit) => r = A_chM (A_fm af j) c0 kk) (fun (u : Unit) => [oq7 mo mo_st mo_at mo_isKept (nI mo_pe) (nI mo_hm) mo_draft (nI mo_dp) (nI mo_dh) mo_toldLines mo_highest mo_tape (nI mo_tl) (nI mo_ps) (nI mo_fr) mo_sort mo_value (nI mo_ft) mo_wrongAt mo_row mo_orderMany (nI mo_fo) mo_lightest mo_heaviest mo_before mo_justSum mo_toldSum mo_allWays mo_lanes mo_sizes mo_cells mo_torn mo_had, oqI k mo_at 44 (af)]) := by
  refine Met.ofW (cc := cX8_takenBy) (maxL := 3) (ret := (some .int)) hpn_X8 rfl ?_
  intro p e s m args below meth c s₁ B hml hv
  obtain ⟨rfl, hsz, hP, hK, hD0, hN⟩ := hv
  have hx := B.exec
  have hb := B.bytes
  have hr := B.returns
  have hlocks := B.notSynchronized
  have hts := atoms_spec (ws := wsX8_takenBy) B.pre
  have hown := findClass_of_methodNamed B.named
  have hown : s.vm.findClass RX8 = some m.cls := hown
  subst hsz
  have hD := hD0.self (sz := s.heap.size)
  generalize hAe : va_A [oq7 mo mo_st mo_at mo_isKept (nI mo_pe) (nI mo_hm) mo_draft (nI mo_dp) (nI mo_dh) mo_toldLines mo_highest mo_tape (nI mo_tl) (nI mo_ps) (nI mo_fr) mo_sort mo_value (nI mo_ft) mo_wrongAt mo_row mo_orderMany (nI mo_fo) mo_lightest mo_heaviest mo_before mo_justSum mo_toldSum mo_allWays mo_lanes mo_sizes mo_cells mo_torn mo_had, oqI k mo_at 44 (af)] s.heap.size = A at hD ⊢
  have hA : ∀ q : Nat, s.heap.size ≤ q → A q := fun q h => by rw [← hAe]; exact Or.inr h
  have hS : va_S A s.heap s.heap [] := va_S.rf
  have hl := lv_entry ([.ref mo, .int (nI j), .int kk]) (n := 3) (Nat.le_of_ble_eq_true rfl)
  rw [lg_entry_eq]
  generalize (lg_sl ([.ref mo, .int (nI j), .int kk]) ++ List.replicate (3 - (lg_sl ([.ref mo, .int (nI j), .int kk])).length) Slot.unset).toArray = ls at hl ⊢
  have hl : lv_has ls 3 [(0, .ref mo), (1, .int (nI j)), (2, .int kk)] := hl
  have hP : va_P D vwCl [oq7 mo mo_st mo_at mo_isKept (nI mo_pe) (nI mo_hm) mo_draft (nI mo_dp) (nI mo_dh) mo_toldLines mo_highest mo_tape (nI mo_tl) (nI mo_ps) (nI mo_fr) mo_sort mo_value (nI mo_ft) mo_wrongAt mo_row mo_orderMany (nI mo_fo) mo_lightest mo_heaviest mo_before mo_justSum mo_toldSum mo_allWays mo_lanes mo_sizes mo_cells mo_torn mo_had, oqI k mo_at 44 (af)] s.heap := hP
  refine lv_aload_n hx hb dX8_takenBy_0 rfl (lv_at hl 0 rfl) ?_
  refine lv_iload_n hx hb dX8_takenBy_1 rfl (lv_at hl 1 rfl) ?_
  refine lv_iload_n hx hb dX8_takenBy_2 rfl (lv_at hl 2 rfl) ?_
  refine hs_pi (va_runS (As := [.int kk]) (rest := [.int (nI j), .ref mo]) ⟨hx, hb, hml, hown, hts⟩ (gr_leftOf l D k _ kk) (va_cwS 1 hts gX8_takenBy_X8_leftOf rfl rfl rfl hq_X8_leftOf ⟨Nat.le_of_ble_eq_true rfl, Nat.le_of_ble_eq_true rfl⟩) (hs_preS hK hN (hs_subP (w := []) hP [] rfl) (hD.sub (ws' := []) [] rfl rfl)) rfl rfl hl.1 rfl (lv_room (Nat.le_of_ble_eq_true rfl)) dX8_takenBy_3 ⟨Nat.le_of_ble_eq_true rfl, Nat.le_of_ble_eq_true rfl⟩) hP hD hS hA (fun r_1 u_3 H locs hw_2 hP hS => ?_)
  refine hs_topi (A_lf kk) hw_2 ?_
  refine hs_ciM (va_runV (As := [.int (nI j), .int (A_lf kk)]) (rest := []) ⟨hx, hb, hml, hown, hts⟩ (gr_moreLeft l D k _ mo mo_st mo_at mo_isKept mo_pe mo_hm mo_draft mo_dp mo_dh mo_toldLines mo_highest mo_tape mo_tl mo_ps mo_fr mo_sort mo_value mo_ft mo_wrongAt mo_row mo_orderMany mo_fo mo_lightest mo_heaviest mo_before mo_justSum mo_toldSum mo_allWays mo_lanes mo_sizes mo_cells mo_torn mo_had af c0 j (A_lf kk) (by first | exact e0a | exact e0) (by omega) (by omega)) (cwV 2 hts gX8_takenBy_X8_moreLeft rfl rfl rfl ⟨rfl, hq_X8_moreLeft⟩ ⟨Nat.le_of_ble_eq_true rfl, Nat.le_of_ble_eq_true rfl⟩) (hs_preV hK hN (hs_subP (w := [_, _]) hP [0, 1] rfl) (hD.sub (ws' := [_, _]) [0, 1] (hs_upnd rfl) rfl) (ci := 7) (q0 := 0) rfl rfl) rfl rfl hl.1 rfl (lv_room (Nat.le_of_ble_eq_true rfl)) dX8_takenBy_6 ⟨Nat.le_of_ble_eq_true rfl, Nat.le_of_ble_eq_true rfl⟩) hP hD hS hA [false, false] [] [_, _] rfl [0, 1] rfl [0, 1] (fun u_6 => [_, _]) (fun _ => rfl) (hs_upnd rfl) [false, false] (fun u_6 => [_, _]) (fun _ => rfl) (fun r_4 u_6 H locs hw_5 hP hD hS => ?_)
  refine hs_topi (A_ml (A_fm af j) (A_lf kk) c0) hw_5 ?_
  refine lv_if_lt (tgt := 19) hx hb dX8_takenBy_9 rfl (fun c_7 => ?_) (fun c_7 => ?_)
  · refine lv_aload_n hx hb dX8_takenBy_19 rfl (lv_at hl 0 rfl) ?_
    refine hs_ciM (va_runV (As := []) (rest := []) ⟨hx, hb, hml, hown, hts⟩ (gm_every l D k _ mo mo_st mo_at mo_isKept mo_pe mo_hm mo_draft mo_dp mo_dh mo_toldLines mo_highest mo_tape mo_tl mo_ps mo_fr mo_sort mo_value mo_ft mo_wrongAt mo_row mo_orderMany mo_fo mo_lightest mo_heaviest mo_before mo_justSum mo_toldSum mo_allWays mo_lanes mo_sizes mo_cells mo_torn mo_had af c0 (by first | exact e0a | exact e0) (by omega)) (cwV 0 hts gX8_takenBy_X8_every rfl rfl rfl ⟨rfl, hq_X8_every⟩ ⟨Nat.le_of_ble_eq_true rfl, Nat.le_of_ble_eq_true rfl⟩) (hs_preV hK hN (hs_subP (w := [_, _]) hP [0, 1] rfl) (hD.sub (ws' := [_, _]) [0, 1] (hs_upnd rfl) rfl) (ci := 7) (q0 := 0) rfl rfl) rfl rfl hl.1 rfl (lv_room (Nat.le_of_ble_eq_true rfl)) dX8_takenBy_20 ⟨Nat.le_of_ble_eq_true rfl, Nat.le_of_ble_eq_true rfl⟩) hP hD hS hA [false, false] [] [_, _] rfl [0, 1] rfl [0, 1] (fun u_10 => [_, _]) (fun _ => rfl) (hs_upnd rfl) [false, false] (fun u_10 => [_, _]) (fun _ => rfl) (fun r_8 u_10 H locs hw_9 hP hD hS => ?_)
    refine hs_topi (nI (2 ^ c0 - 1)) hw_9 ?_
    refine lv_iload_n hx hb dX8_takenBy_23 rfl (lv_at hl 2 rfl) ?_
    refine hs_pi (va_runS (As := [.int kk]) (rest := [.int (nI (2 ^ c0 - 1))]) ⟨hx, hb, hml, hown, hts⟩ (gr_leftOf l D k _ kk) (va_cwS 1 hts gX8_takenBy_X8_leftOf rfl rfl rfl hq_X8_leftOf ⟨Nat.le_of_ble_eq_true rfl, Nat.le_of_ble_eq_true rfl⟩) (hs_preS hK hN (hs_subP (w := []) hP [] rfl) (hD.sub (ws' := []) [] rfl rfl)) rfl rfl hl.1 rfl (lv_room (Nat.le_of_ble_eq_true rfl)) dX8_takenBy_24 ⟨Nat.le_of_ble_eq_true rfl, Nat.le_of_ble_eq_true rfl⟩) hP hD hS hA (fun r_11 u_13 H locs hw_12 hP hS => ?_)
    refine hs_topi (A_lf kk) hw_12 ?_
    refine lv_iconst (v := (-1)) hx hb dX8_takenBy_27 hki_m1 ?_
    refine lv_ixor hx hb dX8_takenBy_28 ?_
    refine lv_iand hx hb dX8_takenBy_29 ?_
    exact hs_iret hx hb hr hlocks hK hP hD hS () [0, 1] rfl (hs_upnd rfl) dX8_takenBy_30 ((by rw [A_chM, if_pos c_7]))
  · refine lv_iload_n hx hb dX8_takenBy_12 rfl (lv_at hl 2 rfl) ?_
    refine hs_pi (va_runS (As := [.int kk]) (rest := []) ⟨hx, hb, hml, hown, hts⟩ (gr_leftOf l D k _ kk) (va_cwS 1 hts gX8_takenBy_X8_leftOf rfl rfl rfl hq_X8_leftOf ⟨Nat.le_of_ble_eq_true rfl, Nat.le_of_ble_eq_true rfl⟩) (hs_preS hK hN (hs_subP (w := []) hP [] rfl) (hD.sub (ws' := []) [] rfl rfl)) rfl rfl hl.1 rfl (lv_room (Nat.le_of_ble_eq_true rfl)) dX8_takenBy_13 ⟨Nat.le_of_ble_eq_true rfl, Nat.le_of_ble_eq_true rfl⟩) hP hD hS hA (fun r_14 u_16 H locs hw_15 hP hS => ?_)
    refine hs_topi (A_lf kk) hw_15 ?_
    refine lv_goto (tgt := 30) hx hb dX8_takenBy_16 rfl ?_
    exact hs_iret hx hb hr hlocks hK hP hD hS () [0, 1] rfl (hs_upnd rfl) dX8_takenBy_30 ((by rw [A_chM, if_neg c_7]))
