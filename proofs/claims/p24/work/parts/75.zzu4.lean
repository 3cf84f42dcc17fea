set_option maxHeartbeats 4000000 in
set_option maxRecDepth 100000 in
theorem gf_cutsOf (l : Launch) (D : va_G) (k : Nat → ClassId) (sz : Nat) (t : Nat) (t_a : Nat → Nat) (t_N : Nat → Nat) (t_J : Nat → Int32) (cells : Int32)  : MI l yX1_cutsOf wsX1_cutsOf ({ frames := 1, cells := 0, slots := 0, locals := 20 }) D k [.ref t, .int cells] [oqT t t_a t_N t_J] sz (fun (r : Int32) (u : Unit) => r = A_cuC (t_N 0) cells) (fun (u : Unit) => [oqT t t_a t_N t_J]) := by
  refine Met.ofW (cc := cX1_cutsOf) (maxL := 3) (ret := (some .int)) hpn_X1 rfl ?_
  intro p e s m args below meth c s₁ B hml hv
  obtain ⟨rfl, hsz, hP, hK, hD0, hN⟩ := hv
  have hx := B.exec
  have hb := B.bytes
  have hr := B.returns
  have hlocks := B.notSynchronized
  have hts := atoms_spec (ws := wsX1_cutsOf) B.pre
  have hown := findClass_of_methodNamed B.named
  have hown : s.vm.findClass RX1 = some m.cls := hown
  have hiX6 : ∀ w ∈ u_ws RX6 TX6 15, w ∈ wsX1_cutsOf := fun w9 hw9 => List.mem_cons_of_mem _ (igX6 w9 hw9)
  have fl24 := hts (.fieldLink RX1 24 "HalfScales$Thing" "cellCount" "I") (List.mem_cons_of_mem _ (hs_inG 1 52 rfl rfl))
  subst hsz
  have hD := hD0.self (sz := s.heap.size)
  generalize hAe : va_A [oqT t t_a t_N t_J] s.heap.size = A at hD ⊢
  have hA : ∀ q : Nat, s.heap.size ≤ q → A q := fun q h => by rw [← hAe]; exact Or.inr h
  have hS : va_S A s.heap s.heap [] := va_S.rf
  have hl := lv_entry ([.ref t, .int cells]) (n := 3) (Nat.le_of_ble_eq_true rfl)
  rw [lg_entry_eq]
  generalize (lg_sl ([.ref t, .int cells]) ++ List.replicate (3 - (lg_sl ([.ref t, .int cells])).length) Slot.unset).toArray = ls at hl ⊢
  have hl : lv_has ls 3 [(0, .ref t), (1, .int cells)] := hl
  have hP : va_P D vwCl [oqT t t_a t_N t_J] s.heap := hP
  refine lv_iconst (v := 1) hx hb dX1_cutsOf_0 hki_1 ?_
  refine lv_aload_n hx hb dX1_cutsOf_1 rfl (lv_at hl 0 rfl) ?_
  refine va_get (D := D) (ci := 5) (v := .int (nI (t_N 0))) (C := RX6) (T := TX6) (N := 15) hx hb hts hiX6 hown hK hP 0 rfl rfl 7 (Nat.le_of_ble_eq_true rfl) fl24 (fun _ h9 => h9) rfl dX1_cutsOf_2 ?_
  refine lv_iconst (v := 1) hx hb dX1_cutsOf_5 hki_1 ?_
  refine lv_isub hx hb dX1_cutsOf_6 ?_
  refine lv_ishl hx hb dX1_cutsOf_7 ?_
  refine lv_iconst (v := 1) hx hb dX1_cutsOf_8 hki_1 ?_
  refine lv_isub hx hb dX1_cutsOf_9 ?_
  refine lv_istore_n (lv' := [(2, .int ((1 <<< (((nI (t_N 0)) - 1) &&& 31)) - 1)), (0, .ref t), (1, .int cells)]) hx hb dX1_cutsOf_10 rfl hl (Nat.le_of_ble_eq_true rfl) rfl (fun ls hl => ?_)
  refine lv_iload_n hx hb dX1_cutsOf_11 rfl (lv_at hl 2 rfl) ?_
  refine lv_iload_n hx hb dX1_cutsOf_12 rfl (lv_at hl 2 rfl) ?_
  refine lv_iconst (v := 1) hx hb dX1_cutsOf_13 hki_1 ?_
  refine lv_ishr hx hb dX1_cutsOf_14 ?_
  refine lv_ixor hx hb dX1_cutsOf_15 ?_
  refine lv_iload_n hx hb dX1_cutsOf_16 rfl (lv_at hl 0 rfl) ?_
  refine lv_iand hx hb dX1_cutsOf_17 ?_
  refine hs_pi (va_runS (As := [.int ((cells ^^^ (cells >>> (1 &&& 31))) &&& ((1 <<< (((nI (t_N 0)) - 1) &&& 31)) - 1))]) (rest := []) ⟨hx, hb, hml, hown, hts⟩ (gf_bitCount l D k _ ((cells ^^^ (cells >>> (1 &&& 31))) &&& ((1 <<< (((nI (t_N 0)) - 1) &&& 31)) - 1))) (va_cwS 1 hts gX1_cutsOf_J6_bitCount_0f7a4 rfl rfl rfl hq_J6_bitCount_0f7a4 ⟨Nat.le_of_ble_eq_true rfl, Nat.le_of_ble_eq_true rfl⟩) (hs_preS hK hN (hs_subP (w := []) hP [] rfl) (hD.sub (ws' := []) [] rfl rfl)) rfl rfl hl.1 rfl (lv_room (Nat.le_of_ble_eq_true rfl)) dX1_cutsOf_18 ⟨Nat.le_of_ble_eq_true rfl, Nat.le_of_ble_eq_true rfl⟩) hP hD hS hA (fun r_1 u_3 H locs hw_2 hP hS => ?_)
  refine hs_topi (A_bc ((cells ^^^ (cells >>> (1 &&& 31))) &&& ((1 <<< (((nI (t_N 0)) - 1) &&& 31)) - 1))) hw_2 ?_
  exact hs_iret hx hb hr hlocks hK hP hD hS () [0] rfl (hs_upnd rfl) dX1_cutsOf_21 (rfl)

set_option maxHeartbeats 4000000 in
set_option maxRecDepth 100000 in
theorem gf_isJustToAll (l : Launch) (D : va_G) (k : Nat → ClassId) (sz : Nat) (t : Nat) (t_a : Nat → Nat) (t_N : Nat → Nat) (t_J : Nat → Int32) (t_F : Nat → Nat → Int32) (pe : Int32) (cells : Int32) (hN0 : thN t_N) : MI l yX1_isJustToAll wsX1_isJustToAll ({ frames := 2, cells := 0, slots := 0, locals := 50 }) D k [.ref t, .int pe, .int cells] [oqT t t_a t_N t_J, oqF0 k t_a t_F, oqF1 k t_a t_F, oqF2 k t_a t_F, oqF3 k t_a t_F, oqF4 k t_a t_F, oqF5 k t_a t_F, oqF6 k t_a t_F] sz (fun (r : Int32) (u : Unit) => r = hsb (A_jsC t_N t_J t_F pe cells (t_N 1))) (fun (u : Unit) => [oqT t t_a t_N t_J, oqF0 k t_a t_F, oqF1 k t_a t_F, oqF2 k t_a t_F, oqF3 k t_a t_F, oqF4 k t_a t_F, oqF5 k t_a t_F, oqF6 k t_a t_F]) := by
  refine Met.ofW (cc := cX1_isJustToAll) (maxL := 4) (ret := (some .boolean)) hpn_X1 rfl ?_
  intro p e s m args below meth c s₁ B hml hv
  obtain ⟨rfl, hsz, hP, hK, hD0, hN⟩ := hv
  have hx := B.exec
  have hb := B.bytes
  have hr := B.returns
  have hlocks := B.notSynchronized
  have hts := atoms_spec (ws := wsX1_isJustToAll) B.pre
  have hown := findClass_of_methodNamed B.named
  have hown : s.vm.findClass RX1 = some m.cls := hown
  have hiX6 : ∀ w ∈ u_ws RX6 TX6 15, w ∈ wsX1_isJustToAll := fun w9 hw9 => List.mem_cons_of_mem _ (igX6 w9 hw9)
  have fl58 := hts (.fieldLink RX1 58 "HalfScales$Thing" "peopleCount" "I") (List.mem_cons_of_mem _ (hs_inG 1 58 rfl rfl))
  have fl61 := hts (.fieldLink RX1 61 "HalfScales$Thing" "slip" "I") (List.mem_cons_of_mem _ (hs_inG 1 62 rfl rfl))
  have mm19 := hts (.methodLink RX1 19 Lib.Math.abs.name) (List.mem_cons_of_mem _ (hs_inG 3 99 rfl rfl))
  have msabs := hts (.static Lib.Math.abs.name) (List.mem_cons_of_mem _ (hs_inG 3 69 rfl rfl))
  have mi := hts (.initialized "java/lang/Math") (List.mem_cons_of_mem _ (hs_inG 1 14 rfl rfl))
  have mcabs := hts (.code Lib.Math.abs.name Lib.Math.abs.code 1 (some .int)) (List.mem_cons_of_mem _ (hs_inG 3 70 rfl rfl))
  obtain ⟨I0, I1, ⟨I2, I2b⟩, I3, I4⟩ := hN0
  subst hsz
  have hD := hD0.self (sz := s.heap.size)
  generalize hAe : va_A [oqT t t_a t_N t_J, oqF0 k t_a t_F, oqF1 k t_a t_F, oqF2 k t_a t_F, oqF3 k t_a t_F, oqF4 k t_a t_F, oqF5 k t_a t_F, oqF6 k t_a t_F] s.heap.size = A at hD ⊢
  have hA : ∀ q : Nat, s.heap.size ≤ q → A q := fun q h => by rw [← hAe]; exact Or.inr h
  have hS : va_S A s.heap s.heap [] := va_S.rf
  have hl := lv_entry ([.ref t, .int pe, .int cells]) (n := 4) (Nat.le_of_ble_eq_true rfl)
  rw [lg_entry_eq]
  generalize (lg_sl ([.ref t, .int pe, .int cells]) ++ List.replicate (4 - (lg_sl ([.ref t, .int pe, .int cells])).length) Slot.unset).toArray = ls at hl ⊢
  have hl : lv_has ls 4 [(0, .ref t), (1, .int pe), (2, .int cells)] := hl
  have hP : va_P D vwCl [oqT t t_a t_N t_J, oqF0 k t_a t_F, oqF1 k t_a t_F, oqF2 k t_a t_F, oqF3 k t_a t_F, oqF4 k t_a t_F, oqF5 k t_a t_F, oqF6 k t_a t_F] s.heap := hP
  refine lv_iconst (v := 0) hx hb dX1_isJustToAll_0 hki_0 ?_
  refine lv_istore_n (lv' := [(3, .int 0), (0, .ref t), (1, .int pe), (2, .int cells)]) hx hb dX1_isJustToAll_1 rfl hl (Nat.le_of_ble_eq_true rfl) rfl (fun ls hl => ?_)
  refine hs_while (σ := Nat) (fun x => x ≤ t_N 1 ∧ A_jsC t_N t_J t_F pe cells x = true) (fun x => t_N 1 - x) (fun x => [oqT t t_a t_N t_J, oqF0 k t_a t_F, oqF1 k t_a t_F, oqF2 k t_a t_F, oqF3 k t_a t_F, oqF4 k t_a t_F, oqF5 k t_a t_F, oqF6 k t_a t_F]) (fun x => [(3, .int (nI (x))), (0, .ref t), (1, .int pe), (2, .int cells)]) ?_ (0) ?_ hP hD hS hl
  · intro x hI ih2 H locs ls hP hD hS hl
    obtain ⟨q, rfl⟩ : ∃ z, z = x := ⟨_, rfl⟩
    try dsimp only at hI
    have hP : va_P D vwCl [oqT t t_a t_N t_J, oqF0 k t_a t_F, oqF1 k t_a t_F, oqF2 k t_a t_F, oqF3 k t_a t_F, oqF4 k t_a t_F, oqF5 k t_a t_F, oqF6 k t_a t_F] H := hP
    have hD : va_D A [oqT t t_a t_N t_J, oqF0 k t_a t_F, oqF1 k t_a t_F, oqF2 k t_a t_F, oqF3 k t_a t_F, oqF4 k t_a t_F, oqF5 k t_a t_F, oqF6 k t_a t_F] := hD
    have hl : lv_has ls 4 [(3, .int (nI q)), (0, .ref t), (1, .int pe), (2, .int cells)] := hl
    refine lv_iload_n hx hb dX1_isJustToAll_2 rfl (lv_at hl 0 rfl) ?_
    refine lv_aload_n hx hb dX1_isJustToAll_3 rfl (lv_at hl 1 rfl) ?_
    refine va_get (D := D) (ci := 5) (v := .int (nI (t_N 1))) (C := RX6) (T := TX6) (N := 15) hx hb hts hiX6 hown hK hP 0 rfl rfl 8 (Nat.le_of_ble_eq_true rfl) fl58 (fun _ h9 => h9) rfl dX1_isJustToAll_4 ?_
    refine lv_icmp_ge (tgt := 43) hx hb dX1_isJustToAll_7 rfl (fun c_1 => ?_) (fun c_1 => ?_)
    · have nc_1 : (t_N 1) ≤ q := (nI_leI (a := (t_N 1)) (b := q) (by omega) (by omega)).mp c_1
      refine lv_iconst (v := 1) hx hb dX1_isJustToAll_43 hki_1 ?_
      exact hs_zret hx hb hr hlocks hK hP hD hS () [0, 1, 2, 3, 4, 5, 6, 7] rfl (hs_upnd rfl) dX1_isJustToAll_44 rfl ((by rw [← show q = t_N 1 by omega, hI.2]; rfl))
    · have nc_1 : ¬ (t_N 1) ≤ q := fun hq9 => c_1 ((nI_leI (a := (t_N 1)) (b := q) (by omega) (by omega)).mpr hq9)
      refine lv_iload_n hx hb dX1_isJustToAll_10 rfl (lv_at hl 2 rfl) ?_
      refine lv_iload_n hx hb dX1_isJustToAll_11 rfl (lv_at hl 0 rfl) ?_
      refine lv_ishr hx hb dX1_isJustToAll_12 ?_
      refine lv_iconst (v := 1) hx hb dX1_isJustToAll_13 hki_1 ?_
      refine lv_iand hx hb dX1_isJustToAll_14 ?_
      refine lv_iconst (v := 1) hx hb dX1_isJustToAll_15 hki_1 ?_
      refine lv_icmp_ne (tgt := 37) hx hb dX1_isJustToAll_16 rfl (fun c_2 => ?_) (fun c_2 => ?_)
      · refine lv_iinc (v := nI (q + 1)) (lv' := [(3, .int (nI (q + 1))), (0, .ref t), (1, .int pe), (2, .int cells)]) hx hb dX1_isJustToAll_37 hl (k := 0) rfl (nI_add (q) 1) (Nat.le_of_ble_eq_true rfl) rfl (fun ls hl => ?_)
        refine lv_goto (tgt := 2) hx hb dX1_isJustToAll_40 rfl ?_
        exact ih2 (q + 1) (by (try dsimp only); exact ⟨by omega, by rw [A_jsC, hI.2, decide_eq_false c_2, Bool.false_and]; rfl⟩) (by (try dsimp only); omega) _ _ _ hP hD hS (lv_sub hl [0, 1, 2, 3] rfl)
      · refine lv_aload_n hx hb dX1_isJustToAll_19 rfl (lv_at hl 1 rfl) ?_
        refine lv_iload_n hx hb dX1_isJustToAll_20 rfl (lv_at hl 0 rfl) ?_
        refine lv_iload_n hx hb dX1_isJustToAll_21 rfl (lv_at hl 3 rfl) ?_
        refine hs_ciM (va_runV (As := [.int (nI q), .int cells]) (rest := []) ⟨hx, hb, hml, hown, hts⟩ (gf_lead l D k _ t t_a t_N t_J t_F q cells (by first | assumption | exact ⟨by first | omega | (dsimp; omega), by first | omega | (dsimp; omega), ⟨by first | omega | (dsimp; omega), by first | omega | (dsimp; omega)⟩, by first | omega | (dsimp; omega), by first | omega | (dsimp; omega)⟩) (by omega)) (cwV 2 hts gX1_isJustToAll_X6_lead rfl rfl rfl ⟨rfl, hq_X6_lead⟩ ⟨Nat.le_of_ble_eq_true rfl, Nat.le_of_ble_eq_true rfl⟩) (hs_preV hK hN (hs_subP (w := [_, _, _, _, _, _, _, _]) hP [0, 1, 2, 3, 4, 5, 6, 7] rfl) (hD.sub (ws' := [_, _, _, _, _, _, _, _]) [0, 1, 2, 3, 4, 5, 6, 7] (hs_upnd rfl) rfl) (ci := 5) (q0 := 0) rfl rfl) rfl rfl hl.1 rfl (lv_room (Nat.le_of_ble_eq_true rfl)) dX1_isJustToAll_22 ⟨Nat.le_of_ble_eq_true rfl, Nat.le_of_ble_eq_true rfl⟩) hP hD hS hA [false, false, false, false, false, false, false, false] [] [_, _, _, _, _, _, _, _] rfl [0, 1, 2, 3, 4, 5, 6, 7] rfl [0, 1, 2, 3, 4, 5, 6, 7] (fun u_5 => [_, _, _, _, _, _, _, _]) (fun _ => rfl) (hs_upnd rfl) [false, false, false, false, false, false, false, false] (fun u_5 => [_, _, _, _, _, _, _, _]) (fun _ => rfl) (fun r_3 u_5 H locs hw_4 hP hD hS => ?_)
        refine hs_topi (A_ld (A_fc t_F q) cells (t_N 0)) hw_4 ?_
        refine va_mabs hx hb (hml.trans hl.1.symm) hown mm19 msabs mi mcabs (Nat.le_of_ble_eq_true rfl) (Nat.le_of_ble_eq_true rfl) (Nat.zero_le _) (Nat.zero_le _) dX1_isJustToAll_25 ?_
        refine lv_aload_n hx hb dX1_isJustToAll_28 rfl (lv_at hl 1 rfl) ?_
        refine va_get (D := D) (ci := 5) (v := .int (t_J 0)) (C := RX6) (T := TX6) (N := 15) hx hb hts hiX6 hown hK hP 0 rfl rfl 9 (Nat.le_of_ble_eq_true rfl) fl61 (fun _ h9 => h9) rfl dX1_isJustToAll_29 ?_
        refine lv_icmp_le (tgt := 37) hx hb dX1_isJustToAll_32 rfl (fun c_6 => ?_) (fun c_6 => ?_)
        · refine lv_iinc (v := nI (q + 1)) (lv' := [(3, .int (nI (q + 1))), (0, .ref t), (1, .int pe), (2, .int cells)]) hx hb dX1_isJustToAll_37 hl (k := 0) rfl (nI_add (q) 1) (Nat.le_of_ble_eq_true rfl) rfl (fun ls hl => ?_)
          refine lv_goto (tgt := 2) hx hb dX1_isJustToAll_40 rfl ?_
          exact ih2 (q + 1) (by (try dsimp only); exact ⟨by omega, by rw [A_jsC, hI.2, decide_eq_true c_2, Bool.true_and, decide_eq_false (show ¬ t_J 0 < A_ab _ from Int32.not_lt.mpr c_6)]; rfl⟩) (by (try dsimp only); omega) _ _ _ hP hD hS (lv_sub hl [0, 1, 2, 3] rfl)
        · refine lv_iconst (v := 0) hx hb dX1_isJustToAll_35 hki_0 ?_
          exact hs_zret hx hb hr hlocks hK hP hD hS () [0, 1, 2, 3, 4, 5, 6, 7] rfl (hs_upnd rfl) dX1_isJustToAll_36 rfl ((by rw [A_jsC_no (q := q) (n := t_N 1) (by rw [A_jsC, hI.2, decide_eq_true c_2, decide_eq_true (show t_J 0 < A_ab _ from Int32.not_le.mp c_6)]; rfl) (by omega)]; rfl))
  · (try dsimp only); exact ⟨Nat.zero_le _, rfl⟩

set_option maxHeartbeats 4000000 in
set_option maxRecDepth 100000 in
theorem gf_fewestCuts (l : Launch) (D : va_G) (k : Nat → ClassId) (sz : Nat) (t : Nat) (t_a : Nat → Nat) (t_N : Nat → Nat) (t_J : Nat → Int32) (t_F : Nat → Nat → Int32) (pe : Int32) (hN0 : thN t_N) : MI l yX1_fewestCuts wsX1_fewestCuts ({ frames := 3, cells := 0, slots := 0, locals := 73 }) D k [.ref t, .int pe] [oqT t t_a t_N t_J, oqF0 k t_a t_F, oqF1 k t_a t_F, oqF2 k t_a t_F, oqF3 k t_a t_F, oqF4 k t_a t_F, oqF5 k t_a t_F, oqF6 k t_a t_F] sz (fun (r : Int32) (u : Unit) => r = A_haF t_N t_J t_F pe) (fun (u : Unit) => [oqT t t_a t_N t_J, oqF0 k t_a t_F, oqF1 k t_a t_F, oqF2 k t_a t_F, oqF3 k t_a t_F, oqF4 k t_a t_F, oqF5 k t_a t_F, oqF6 k t_a t_F]) := by
  refine Met.ofW (cc := cX1_fewestCuts) (maxL := 6) (ret := (some .int)) hpn_X1 rfl ?_
  intro p e s m args below meth c s₁ B hml hv
  obtain ⟨rfl, hsz, hP, hK, hD0, hN⟩ := hv
  have hx := B.exec
  have hb := B.bytes
  have hr := B.returns
  have hlocks := B.notSynchronized
  have hts := atoms_spec (ws := wsX1_fewestCuts) B.pre
  have hown := findClass_of_methodNamed B.named
  have hown : s.vm.findClass RX1 = some m.cls := hown
  have hN1 := hN0
  obtain ⟨I0, I1, ⟨I2, I2b⟩, I3, I4⟩ := hN0
  have hpw : 2 ^ t_N 0 ≤ 256 := Nat.le_trans (Nat.pow_le_pow_right (n := 2) (by decide) I0) (by decide)
  have hp1 : 1 ≤ 2 ^ t_N 0 := Nat.one_le_two_pow
  subst hsz
  have hD := hD0.self (sz := s.heap.size)
  generalize hAe : va_A [oqT t t_a t_N t_J, oqF0 k t_a t_F, oqF1 k t_a t_F, oqF2 k t_a t_F, oqF3 k t_a t_F, oqF4 k t_a t_F, oqF5 k t_a t_F, oqF6 k t_a t_F] s.heap.size = A at hD ⊢
  have hA : ∀ q : Nat, s.heap.size ≤ q → A q := fun q h => by rw [← hAe]; exact Or.inr h
  have hS : va_S A s.heap s.heap [] := va_S.rf
  have hl := lv_entry ([.ref t, .int pe]) (n := 6) (Nat.le_of_ble_eq_true rfl)
  rw [lg_entry_eq]
  generalize (lg_sl ([.ref t, .int pe]) ++ List.replicate (6 - (lg_sl ([.ref t, .int pe])).length) Slot.unset).toArray = ls at hl ⊢
  have hl : lv_has ls 6 [(0, .ref t), (1, .int pe)] := hl
  have hP : va_P D vwCl [oqT t t_a t_N t_J, oqF0 k t_a t_F, oqF1 k t_a t_F, oqF2 k t_a t_F, oqF3 k t_a t_F, oqF4 k t_a t_F, oqF5 k t_a t_F, oqF6 k t_a t_F] s.heap := hP
  refine lv_bipush (v := (-4)) hx hb dX1_fewestCuts_0 hkb_m4 ?_
  refine lv_istore_n (lv' := [(2, .int (-4)), (0, .ref t), (1, .int pe)]) hx hb dX1_fewestCuts_2 rfl hl (Nat.le_of_ble_eq_true rfl) rfl (fun ls hl => ?_)
  refine lv_bipush (v := 8) hx hb dX1_fewestCuts_3 hkb_8 ?_
  refine lv_istore_n (lv' := [(3, .int 8), (2, .int (-4)), (0, .ref t), (1, .int pe)]) hx hb dX1_fewestCuts_5 rfl hl (Nat.le_of_ble_eq_true rfl) rfl (fun ls hl => ?_)
  refine lv_iconst (v := 0) hx hb dX1_fewestCuts_6 hki_0 ?_
  refine lv_istore (lv' := [(4, .int 0), (3, .int 8), (2, .int (-4)), (0, .ref t), (1, .int pe)]) hx hb dX1_fewestCuts_7 hl (Nat.le_of_ble_eq_true rfl) rfl (fun ls hl => ?_)
  refine hs_while (σ := Int32 × Int32 × Nat) (fun x => x.2.2 ≤ 2 ^ t_N 0 ∧ x.1 = (A_fwC (fun n => A_cuC (t_N 0) (nI n)) (fun n => A_jsC t_N t_J t_F pe (nI n) (t_N 1)) x.2.2).1 ∧ x.2.1 = (A_fwC (fun n => A_cuC (t_N 0) (nI n)) (fun n => A_jsC t_N t_J t_F pe (nI n) (t_N 1)) x.2.2).2) (fun x => 2 ^ t_N 0 - x.2.2) (fun x => [oqT t t_a t_N t_J, oqF0 k t_a t_F, oqF1 k t_a t_F, oqF2 k t_a t_F, oqF3 k t_a t_F, oqF4 k t_a t_F, oqF5 k t_a t_F, oqF6 k t_a t_F]) (fun x => [(4, .int (nI (x.2.2))), (3, .int (x.2.1)), (2, .int (x.1)), (0, .ref t), (1, .int pe)]) ?_ ((-4), 8, 0) ?_ hP hD hS hl
  · intro x hI ih9 H locs ls hP hD hS hl
    obtain ⟨best, few, ce⟩ := x
    try dsimp only at hI
    have hP : va_P D vwCl [oqT t t_a t_N t_J, oqF0 k t_a t_F, oqF1 k t_a t_F, oqF2 k t_a t_F, oqF3 k t_a t_F, oqF4 k t_a t_F, oqF5 k t_a t_F, oqF6 k t_a t_F] H := hP
    have hD : va_D A [oqT t t_a t_N t_J, oqF0 k t_a t_F, oqF1 k t_a t_F, oqF2 k t_a t_F, oqF3 k t_a t_F, oqF4 k t_a t_F, oqF5 k t_a t_F, oqF6 k t_a t_F] := hD
    have hl : lv_has ls 6 [(4, .int (nI ce)), (3, .int few), (2, .int best), (0, .ref t), (1, .int pe)] := hl
    refine lv_iload hx hb dX1_fewestCuts_9 (lv_at hl 0 rfl) ?_
    refine lv_aload_n hx hb dX1_fewestCuts_11 rfl (lv_at hl 3 rfl) ?_
    refine hs_ciM (va_runV (As := []) (rest := [.int (nI ce)]) ⟨hx, hb, hml, hown, hts⟩ (g_allCells l D k _ t t_a t_N t_J (by first | assumption | exact ⟨by first | omega | (dsimp; omega), by first | omega | (dsimp; omega), ⟨by first | omega | (dsimp; omega), by first | omega | (dsimp; omega)⟩, by first | omega | (dsimp; omega), by first | omega | (dsimp; omega)⟩)) (cwV 0 hts gX1_fewestCuts_X6_allCells rfl rfl rfl ⟨rfl, hq_X6_allCells⟩ ⟨Nat.le_of_ble_eq_true rfl, Nat.le_of_ble_eq_true rfl⟩) (hs_preV hK hN (hs_subP (w := [_]) hP [0] rfl) (hD.sub (ws' := [_]) [0] (hs_upnd rfl) rfl) (ci := 5) (q0 := 0) rfl rfl) rfl rfl hl.1 rfl (lv_room (Nat.le_of_ble_eq_true rfl)) dX1_fewestCuts_12 ⟨Nat.le_of_ble_eq_true rfl, Nat.le_of_ble_eq_true rfl⟩) hP hD hS hA [false, true, true, true, true, true, true, true] [_, _, _, _, _, _, _] [_] rfl [0] rfl [0] (fun u_3 => [_]) (fun _ => rfl) (hs_upnd rfl) [false, true, true, true, true, true, true, true] (fun u_3 => [_, _, _, _, _, _, _, _]) (fun _ => rfl) (fun r_1 u_3 H locs hw_2 hP hD hS => ?_)
    refine hs_topi (nI (2 ^ (t_N 0) - 1)) hw_2 ?_
    refine lv_icmp_gt (tgt := 54) hx hb dX1_fewestCuts_15 rfl (fun c_4 => ?_) (fun c_4 => ?_)
    · have nc_4 : (2 ^ (t_N 0) - 1) < ce := (nI_ltI (a := (2 ^ (t_N 0) - 1)) (b := ce) (by omega) (by omega)).mp c_4
      refine lv_iload_n hx hb dX1_fewestCuts_54 rfl (lv_at hl 2 rfl) ?_
      exact hs_iret hx hb hr hlocks hK hP hD hS () [0, 1, 2, 3, 4, 5, 6, 7] rfl (hs_upnd rfl) dX1_fewestCuts_55 ((by rw [A_haF, hI.2.1, show ce = 2 ^ t_N 0 by omega]))
    · have nc_4 : ¬ (2 ^ (t_N 0) - 1) < ce := fun hq9 => c_4 ((nI_ltI (a := (2 ^ (t_N 0) - 1)) (b := ce) (by omega) (by omega)).mpr hq9)
      refine lv_aload_n hx hb dX1_fewestCuts_18 rfl (lv_at hl 3 rfl) ?_
      refine lv_iload hx hb dX1_fewestCuts_19 (lv_at hl 0 rfl) ?_
      refine hs_ciM (va_runS (As := [.ref t, .int (nI ce)]) (rest := []) ⟨hx, hb, hml, hown, hts⟩ (gf_cutsOf l D k _ t t_a t_N t_J (nI ce)) (va_cwS 2 hts gX1_fewestCuts_X1_cutsOf rfl rfl rfl hq_X1_cutsOf ⟨Nat.le_of_ble_eq_true rfl, Nat.le_of_ble_eq_true rfl⟩) (hs_preS hK hN (hs_subP (w := [_]) hP [0] rfl) (hD.sub (ws' := [_]) [0] (hs_upnd rfl) rfl)) rfl rfl hl.1 rfl (lv_room (Nat.le_of_ble_eq_true rfl)) dX1_fewestCuts_21 ⟨Nat.le_of_ble_eq_true rfl, Nat.le_of_ble_eq_true rfl⟩) hP hD hS hA [false, true, true, true, true, true, true, true] [_, _, _, _, _, _, _] [_] rfl [0] rfl [0] (fun u_7 => [_]) (fun _ => rfl) (hs_upnd rfl) [false, true, true, true, true, true, true, true] (fun u_7 => [_, _, _, _, _, _, _, _]) (fun _ => rfl) (fun r_5 u_7 H locs hw_6 hP hD hS => ?_)
      refine hs_topi (A_cuC (t_N 0) (nI ce)) hw_6 ?_
      refine lv_istore (lv' := [(5, .int (A_cuC (t_N 0) (nI ce))), (4, .int (nI ce)), (3, .int few), (2, .int best), (0, .ref t), (1, .int pe)]) hx hb dX1_fewestCuts_24 hl (Nat.le_of_ble_eq_true rfl) rfl (fun ls hl => ?_)
      refine lv_iload hx hb dX1_fewestCuts_26 (lv_at hl 0 rfl) ?_
      refine lv_iload_n hx hb dX1_fewestCuts_28 rfl (lv_at hl 2 rfl) ?_
      refine lv_icmp_ge (tgt := 48) hx hb dX1_fewestCuts_29 rfl (fun c_8 => ?_) (fun c_8 => ?_)
      · refine lv_iinc (v := nI (ce + 1)) (lv' := [(4, .int (nI (ce + 1))), (5, .int (A_cuC (t_N 0) (nI ce))), (3, .int few), (2, .int best), (0, .ref t), (1, .int pe)]) hx hb dX1_fewestCuts_48 hl (k := 1) rfl (nI_add (ce) 1) (Nat.le_of_ble_eq_true rfl) rfl (fun ls hl => ?_)
        refine lv_goto (tgt := 9) hx hb dX1_fewestCuts_51 rfl ?_
        exact ih9 (best, few, ce + 1) (by (try dsimp only); exact ⟨by omega, by rw [A_fwC, if_neg (fun t9 => absurd (show few ≤ A_cuC (t_N 0) (nI ce) from c_8) (Int32.not_le.mpr (by rw [hI.2.2]; exact t9.1)))]; exact hI.2.1, by rw [A_fwC, if_neg (fun t9 => absurd (show few ≤ A_cuC (t_N 0) (nI ce) from c_8) (Int32.not_le.mpr (by rw [hI.2.2]; exact t9.1)))]; exact hI.2.2⟩) (by (try dsimp only); omega) _ _ _ hP hD hS (lv_sub hl [0, 2, 3, 4, 5] rfl)
      · refine lv_aload_n hx hb dX1_fewestCuts_32 rfl (lv_at hl 4 rfl) ?_
        refine lv_iload_n hx hb dX1_fewestCuts_33 rfl (lv_at hl 5 rfl) ?_
        refine lv_iload hx hb dX1_fewestCuts_34 (lv_at hl 1 rfl) ?_
        refine hs_ciM (va_runS (As := [.ref t, .int pe, .int (nI ce)]) (rest := []) ⟨hx, hb, hml, hown, hts⟩ (gf_isJustToAll l D k _ t t_a t_N t_J t_F pe (nI ce) (by first | assumption | exact ⟨by first | omega | (dsimp; omega), by first | omega | (dsimp; omega), ⟨by first | omega | (dsimp; omega), by first | omega | (dsimp; omega)⟩, by first | omega | (dsimp; omega), by first | omega | (dsimp; omega)⟩)) (va_cwS 3 hts gX1_fewestCuts_X1_isJustToAll rfl rfl rfl hq_X1_isJustToAll ⟨Nat.le_of_ble_eq_true rfl, Nat.le_of_ble_eq_true rfl⟩) (hs_preS hK hN (hs_subP (w := [_, _, _, _, _, _, _, _]) hP [0, 1, 2, 3, 4, 5, 6, 7] rfl) (hD.sub (ws' := [_, _, _, _, _, _, _, _]) [0, 1, 2, 3, 4, 5, 6, 7] (hs_upnd rfl) rfl)) rfl rfl hl.1 rfl (lv_room (Nat.le_of_ble_eq_true rfl)) dX1_fewestCuts_36 ⟨Nat.le_of_ble_eq_true rfl, Nat.le_of_ble_eq_true rfl⟩) hP hD hS hA [false, false, false, false, false, false, false, false] [] [_, _, _, _, _, _, _, _] rfl [0, 1, 2, 3, 4, 5, 6, 7] rfl [0, 1, 2, 3, 4, 5, 6, 7] (fun u_11 => [_, _, _, _, _, _, _, _]) (fun _ => rfl) (hs_upnd rfl) [false, false, false, false, false, false, false, false] (fun u_11 => [_, _, _, _, _, _, _, _]) (fun _ => rfl) (fun r_9 u_11 H locs hw_10 hP hD hS => ?_)
        refine hs_topi (hsb (A_jsC t_N t_J t_F pe (nI ce) (t_N 1))) hw_10 ?_
        refine lv_if_eq (tgt := 48) hx hb dX1_fewestCuts_39 rfl (fun c_12 => ?_) (fun c_12 => ?_)
        · refine lv_iinc (v := nI (ce + 1)) (lv' := [(4, .int (nI (ce + 1))), (5, .int (A_cuC (t_N 0) (nI ce))), (3, .int few), (2, .int best), (0, .ref t), (1, .int pe)]) hx hb dX1_fewestCuts_48 hl (k := 1) rfl (nI_add (ce) 1) (Nat.le_of_ble_eq_true rfl) rfl (fun ls hl => ?_)
          refine lv_goto (tgt := 9) hx hb dX1_fewestCuts_51 rfl ?_
          exact ih9 (best, few, ce + 1) (by (try dsimp only); exact ⟨by omega, by rw [A_fwC, if_neg (fun t9 => hs_tf t9.2 (hs_n0 c_12))]; exact hI.2.1, by rw [A_fwC, if_neg (fun t9 => hs_tf t9.2 (hs_n0 c_12))]; exact hI.2.2⟩) (by (try dsimp only); omega) _ _ _ hP hD hS (lv_sub hl [0, 2, 3, 4, 5] rfl)
        · refine lv_iload hx hb dX1_fewestCuts_42 (lv_at hl 1 rfl) ?_
          refine lv_istore_n (lv' := [(2, .int (nI ce)), (5, .int (A_cuC (t_N 0) (nI ce))), (4, .int (nI ce)), (3, .int few), (0, .ref t), (1, .int pe)]) hx hb dX1_fewestCuts_44 rfl hl (Nat.le_of_ble_eq_true rfl) rfl (fun ls hl => ?_)
          refine lv_iload hx hb dX1_fewestCuts_45 (lv_at hl 1 rfl) ?_
          refine lv_istore_n (lv' := [(3, .int (A_cuC (t_N 0) (nI ce))), (2, .int (nI ce)), (5, .int (A_cuC (t_N 0) (nI ce))), (4, .int (nI ce)), (0, .ref t), (1, .int pe)]) hx hb dX1_fewestCuts_47 rfl hl (Nat.le_of_ble_eq_true rfl) rfl (fun ls hl => ?_)
          refine lv_iinc (v := nI (ce + 1)) (lv' := [(4, .int (nI (ce + 1))), (3, .int (A_cuC (t_N 0) (nI ce))), (2, .int (nI ce)), (5, .int (A_cuC (t_N 0) (nI ce))), (0, .ref t), (1, .int pe)]) hx hb dX1_fewestCuts_48 hl (k := 3) rfl (nI_add (ce) 1) (Nat.le_of_ble_eq_true rfl) rfl (fun ls hl => ?_)
          refine lv_goto (tgt := 9) hx hb dX1_fewestCuts_51 rfl ?_
          exact ih9 (nI ce, A_cuC (t_N 0) (nI ce), ce + 1) (by (try dsimp only); exact ⟨by omega, by rw [A_fwC, if_pos ⟨by rw [← hI.2.2]; exact Int32.not_le.mp c_8, hs_nb c_12⟩]; try rfl, by rw [A_fwC, if_pos ⟨by rw [← hI.2.2]; exact Int32.not_le.mp c_8, hs_nb c_12⟩]; try rfl⟩) (by (try dsimp only); omega) _ _ _ hP hD hS (lv_sub hl [0, 1, 2, 4, 5] rfl)
  · (try dsimp only); exact ⟨Nat.zero_le _, rfl, rfl⟩

set_option maxHeartbeats 4000000 in
set_option maxRecDepth 100000 in
theorem gr_cutsOf (l : Launch) (D : va_G) (k : Nat → ClassId) (sz : Nat) (mo : Nat) (mo_st : Nat) (mo_at : Nat) (mo_isKept : Nat) (mo_pe : Nat) (mo_hm : Nat) (mo_draft : Nat) (mo_dp : Nat) (mo_dh : Nat) (mo_toldLines : Int32) (mo_highest : Int32) (mo_tape : Nat) (mo_tl : Nat) (mo_ps : Nat) (mo_fr : Nat) (mo_sort : Int32) (mo_value : Int32) (mo_ft : Nat) (mo_wrongAt : Int32) (mo_row : Nat) (mo_orderMany : Int32) (mo_fo : Nat) (mo_lightest : Int32) (mo_heaviest : Int32) (mo_before : Nat) (mo_justSum : Int64) (mo_toldSum : Int64) (mo_allWays : Int64) (mo_lanes : Nat) (mo_sizes : Nat) (mo_cells : Nat) (mo_torn : Int32) (mo_had : Nat) (af : Nat → Int32) (c0 : Nat) (sm : Int32) (e0 : af 0 = nI c0) (h0 : c0 ≤ 8) : MI l yX8_cutsOf wsX8_cutsOf ({ frames := 1, cells := 0, slots := 0, locals := 20 }) D k [.ref mo, .int sm] [oq7 mo mo_st mo_at mo_isKept (nI mo_pe) (nI mo_hm) mo_draft (nI mo_dp) (nI mo_dh) mo_toldLines mo_highest mo_tape (nI mo_tl) (nI mo_ps) (nI mo_fr) mo_sort mo_value (nI mo_ft) mo_wrongAt mo_row mo_orderMany (nI mo_fo) mo_lightest mo_heaviest mo_before mo_justSum mo_toldSum mo_allWays mo_lanes mo_sizes mo_cells mo_torn mo_had, oqI k mo_at 44 (af)] sz (fun (r : Int32) (u : Unit) => r = A_cuM sm (c0 - 1)) (fun (u : Unit) => [oq7 mo mo_st mo_at mo_isKept (nI mo_pe) (nI mo_hm) mo_draft (nI mo_dp) (nI mo_dh) mo_toldLines mo_highest mo_tape (nI mo_tl) (nI mo_ps) (nI mo_fr) mo_sort mo_value (nI mo_ft) mo_wrongAt mo_row mo_orderMany (nI mo_fo) mo_lightest mo_heaviest mo_before mo_justSum mo_toldSum mo_allWays mo_lanes mo_sizes mo_cells mo_torn mo_had, oqI k mo_at 44 (af)]) := by
  refine Met.ofW (cc := cX8_cutsOf) (maxL := 4) (ret := (some .int)) hpn_X8 rfl ?_
  intro p e s m args below meth c s₁ B hml hv
  obtain ⟨rfl, hsz, hP, hK, hD0, hN⟩ := hv
  have hx := B.exec
  have hb := B.bytes
  have hr := B.returns
  have hlocks := B.notSynchronized
  have hts := atoms_spec (ws := wsX8_cutsOf) B.pre
  have hown := findClass_of_methodNamed B.named
  have hown : s.vm.findClass RX8 = some m.cls := hown
  have hiX8 : ∀ w ∈ u_ws RX8 TX8 32, w ∈ wsX8_cutsOf := fun w9 hw9 => List.mem_cons_of_mem _ (igX8 w9 hw9)
  have fl13 := hts (.fieldLink RX8 13 "HalfScalesModel" "at" "[I") (List.mem_cons_of_mem _ (hs_inG 4 81 rfl rfl))
  subst hsz
  have hD := hD0.self (sz := s.heap.size)
  generalize hAe : va_A [oq7 mo mo_st mo_at mo_isKept (nI mo_pe) (nI mo_hm) mo_draft (nI mo_dp) (nI mo_dh) mo_toldLines mo_highest mo_tape (nI mo_tl) (nI mo_ps) (nI mo_fr) mo_sort mo_value (nI mo_ft) mo_wrongAt mo_row mo_orderMany (nI mo_fo) mo_lightest mo_heaviest mo_before mo_justSum mo_toldSum mo_allWays mo_lanes mo_sizes mo_cells mo_torn mo_had, oqI k mo_at 44 (af)] s.heap.size = A at hD ⊢
  have hA : ∀ q : Nat, s.heap.size ≤ q → A q := fun q h => by rw [← hAe]; exact Or.inr h
  have hS : va_S A s.heap s.heap [] := va_S.rf
  have hl := lv_entry ([.ref mo, .int sm]) (n := 4) (Nat.le_of_ble_eq_true rfl)
  rw [lg_entry_eq]
  generalize (lg_sl ([.ref mo, .int sm]) ++ List.replicate (4 - (lg_sl ([.ref mo, .int sm])).length) Slot.unset).toArray = ls at hl ⊢
  have hl : lv_has ls 4 [(0, .ref mo), (1, .int sm)] := hl
  have hP : va_P D vwCl [oq7 mo mo_st mo_at mo_isKept (nI mo_pe) (nI mo_hm) mo_draft (nI mo_dp) (nI mo_dh) mo_toldLines mo_highest mo_tape (nI mo_tl) (nI mo_ps) (nI mo_fr) mo_sort mo_value (nI mo_ft) mo_wrongAt mo_row mo_orderMany (nI mo_fo) mo_lightest mo_heaviest mo_before mo_justSum mo_toldSum mo_allWays mo_lanes mo_sizes mo_cells mo_torn mo_had, oqI k mo_at 44 (af)] s.heap := hP
  refine lv_iconst (v := 0) hx hb dX8_cutsOf_0 hki_0 ?_
  refine lv_istore_n (lv' := [(2, .int 0), (0, .ref mo), (1, .int sm)]) hx hb dX8_cutsOf_1 rfl hl (Nat.le_of_ble_eq_true rfl) rfl (fun ls hl => ?_)
  refine lv_iconst (v := 1) hx hb dX8_cutsOf_2 hki_1 ?_
  refine lv_istore_n (lv' := [(3, .int 1), (2, .int 0), (0, .ref mo), (1, .int sm)]) hx hb dX8_cutsOf_3 rfl hl (Nat.le_of_ble_eq_true rfl) rfl (fun ls hl => ?_)
  refine hs_while (σ := Int32 × Nat) (fun x => 1 ≤ x.2 ∧ x.2 - 1 ≤ c0 - 1 ∧ x.1 = A_cuM sm (x.2 - 1)) (fun x => c0 + 1 - x.2) (fun x => [oq7 mo mo_st mo_at mo_isKept (nI mo_pe) (nI mo_hm) mo_draft (nI mo_dp) (nI mo_dh) mo_toldLines mo_highest mo_tape (nI mo_tl) (nI mo_ps) (nI mo_fr) mo_sort mo_value (nI mo_ft) mo_wrongAt mo_row mo_orderMany (nI mo_fo) mo_lightest mo_heaviest mo_before mo_justSum mo_toldSum mo_allWays mo_lanes mo_sizes mo_cells mo_torn mo_had, oqI k mo_at 44 (af)]) (fun x => [(3, .int (nI (x.2))), (2, .int (x.1)), (0, .ref mo), (1, .int sm)]) ?_ (0, 1) ?_ hP hD hS hl
  · intro x hI ih4 H locs ls hP hD hS hl
    obtain ⟨nn, i⟩ := x
    try dsimp only at hI
    have hP : va_P D vwCl [oq7 mo mo_st mo_at mo_isKept (nI mo_pe) (nI mo_hm) mo_draft (nI mo_dp) (nI mo_dh) mo_toldLines mo_highest mo_tape (nI mo_tl) (nI mo_ps) (nI mo_fr) mo_sort mo_value (nI mo_ft) mo_wrongAt mo_row mo_orderMany (nI mo_fo) mo_lightest mo_heaviest mo_before mo_justSum mo_toldSum mo_allWays mo_lanes mo_sizes mo_cells mo_torn mo_had, oqI k mo_at 44 (af)] H := hP
    have hD : va_D A [oq7 mo mo_st mo_at mo_isKept (nI mo_pe) (nI mo_hm) mo_draft (nI mo_dp) (nI mo_dh) mo_toldLines mo_highest mo_tape (nI mo_tl) (nI mo_ps) (nI mo_fr) mo_sort mo_value (nI mo_ft) mo_wrongAt mo_row mo_orderMany (nI mo_fo) mo_lightest mo_heaviest mo_before mo_justSum mo_toldSum mo_allWays mo_lanes mo_sizes mo_cells mo_torn mo_had, oqI k mo_at 44 (af)] := hD
    have hl : lv_has ls 4 [(3, .int (nI i)), (2, .int nn), (0, .ref mo), (1, .int sm)] := hl
    refine lv_iload_n hx hb dX8_cutsOf_4 rfl (lv_at hl 0 rfl) ?_
    refine lv_aload_n hx hb dX8_cutsOf_5 rfl (lv_at hl 2 rfl) ?_
    refine va_get (D := D) (ci := 7) (v := .ref mo_at) (C := RX8) (T := TX8) (N := 32) hx hb hts hiX8 hown hK hP 0 rfl rfl 1 (Nat.le_of_ble_eq_true rfl) fl13 (fun _ h9 => h9) rfl dX8_cutsOf_6 ?_
    refine lv_iconst (v := 0) hx hb dX8_cutsOf_9 hki_0 ?_
    refine va_iald hx hb hK hP 1 0 rfl rfl (hs_in (by decide)) dX8_cutsOf_10 ?_
    refine hs_topi (nI c0) e0 ?_
    refine lv_icmp_ge (tgt := 46) hx hb dX8_cutsOf_11 rfl (fun c_1 => ?_) (fun c_1 => ?_)
    · have nc_1 : c0 ≤ i := (nI_leI (a := c0) (b := i) (by omega) (by omega)).mp c_1
      refine lv_iload_n hx hb dX8_cutsOf_46 rfl (lv_at hl 1 rfl) ?_
      exact hs_iret hx hb hr hlocks hK hP hD hS () [0, 1] rfl (hs_upnd rfl) dX8_cutsOf_47 ((by rw [hI.2.2, show i - 1 = c0 - 1 by omega]))
    · have nc_1 : ¬ c0 ≤ i := fun hq9 => c_1 ((nI_leI (a := c0) (b := i) (by omega) (by omega)).mpr hq9)
      refine lv_iload_n hx hb dX8_cutsOf_14 rfl (lv_at hl 1 rfl) ?_
      refine lv_iload_n hx hb dX8_cutsOf_15 rfl (lv_at hl 3 rfl) ?_
      refine lv_iload_n hx hb dX8_cutsOf_16 rfl (lv_at hl 0 rfl) ?_
      refine lv_ishr hx hb dX8_cutsOf_17 ?_
      refine lv_iconst (v := 1) hx hb dX8_cutsOf_18 hki_1 ?_
      refine lv_iand hx hb dX8_cutsOf_19 ?_
      refine lv_iload_n hx hb dX8_cutsOf_20 rfl (lv_at hl 3 rfl) ?_
      refine lv_iload_n hx hb dX8_cutsOf_21 rfl (lv_at hl 0 rfl) ?_
      refine lv_iconst (v := 1) hx hb dX8_cutsOf_22 hki_1 ?_
      refine lv_isub hx hb dX8_cutsOf_23 ?_
      refine hs_topi (nI (i - 1)) (pk_sub (a := i) (b := 1) (by omega)) ?_
      refine lv_ishr hx hb dX8_cutsOf_24 ?_
      refine lv_iconst (v := 1) hx hb dX8_cutsOf_25 hki_1 ?_
      refine lv_iand hx hb dX8_cutsOf_26 ?_
      refine lv_icmp_eq (tgt := 34) hx hb dX8_cutsOf_27 rfl (fun c_2 => ?_) (fun c_2 => ?_)
      · refine lv_iconst (v := 0) hx hb dX8_cutsOf_34 hki_0 ?_
        refine hs_pi (va_runS (As := [.int 0]) (rest := [.int nn]) ⟨hx, hb, hml, hown, hts⟩ (gr_flagc l D k _ 0) (va_cwS 1 hts gX8_cutsOf_X8_flag rfl rfl rfl hq_X8_flag ⟨Nat.le_of_ble_eq_true rfl, Nat.le_of_ble_eq_true rfl⟩) (hs_preS hK hN (hs_subP (w := []) hP [] rfl) (hD.sub (ws' := []) [] rfl rfl)) rfl rfl hl.1 rfl (lv_room (Nat.le_of_ble_eq_true rfl)) dX8_cutsOf_35 ⟨Nat.le_of_ble_eq_true rfl, Nat.le_of_ble_eq_true rfl⟩) hP hD hS hA (fun r_3 u_5 H locs hw_4 hP hS => ?_)
        refine hs_topi 0 (hw_4.trans (by first | rfl | decide +kernel | rfl)) ?_
        refine lv_iadd hx hb dX8_cutsOf_38 ?_
        refine lv_istore_n (lv' := [(2, .int (nn + 0)), (3, .int (nI i)), (0, .ref mo), (1, .int sm)]) hx hb dX8_cutsOf_39 rfl hl (Nat.le_of_ble_eq_true rfl) rfl (fun ls hl => ?_)
        refine lv_iinc (v := nI (i + 1)) (lv' := [(3, .int (nI (i + 1))), (2, .int (nn + 0)), (0, .ref mo), (1, .int sm)]) hx hb dX8_cutsOf_40 hl (k := 1) rfl (nI_add (i) 1) (Nat.le_of_ble_eq_true rfl) rfl (fun ls hl => ?_)
        refine lv_goto (tgt := 4) hx hb dX8_cutsOf_43 rfl ?_
        exact ih4 (nn + 0, i + 1) (by (try dsimp only); exact ⟨by omega, by omega, by rw [A_cuM_s _ hI.1, if_pos c_2, hI.2.2]⟩) (by (try dsimp only); omega) _ _ _ hP hD hS (lv_sub hl [0, 1, 2, 3] rfl)
      · refine lv_iconst (v := 1) hx hb dX8_cutsOf_30 hki_1 ?_
        refine lv_goto (tgt := 35) hx hb dX8_cutsOf_31 rfl ?_
        refine hs_pi (va_runS (As := [.int 1]) (rest := [.int nn]) ⟨hx, hb, hml, hown, hts⟩ (gr_flagc l D k _ 1) (va_cwS 1 hts gX8_cutsOf_X8_flag rfl rfl rfl hq_X8_flag ⟨Nat.le_of_ble_eq_true rfl, Nat.le_of_ble_eq_true rfl⟩) (hs_preS hK hN (hs_subP (w := []) hP [] rfl) (hD.sub (ws' := []) [] rfl rfl)) rfl rfl hl.1 rfl (lv_room (Nat.le_of_ble_eq_true rfl)) dX8_cutsOf_35 ⟨Nat.le_of_ble_eq_true rfl, Nat.le_of_ble_eq_true rfl⟩) hP hD hS hA (fun r_6 u_8 H locs hw_7 hP hS => ?_)
        refine hs_topi 1 (hw_7.trans (by first | rfl | decide +kernel | rfl)) ?_
        refine lv_iadd hx hb dX8_cutsOf_38 ?_
        refine lv_istore_n (lv' := [(2, .int (nn + 1)), (3, .int (nI i)), (0, .ref mo), (1, .int sm)]) hx hb dX8_cutsOf_39 rfl hl (Nat.le_of_ble_eq_true rfl) rfl (fun ls hl => ?_)
        refine lv_iinc (v := nI (i + 1)) (lv' := [(3, .int (nI (i + 1))), (2, .int (nn + 1)), (0, .ref mo), (1, .int sm)]) hx hb dX8_cutsOf_40 hl (k := 1) rfl (nI_add (i) 1) (Nat.le_of_ble_eq_true rfl) rfl (fun ls hl => ?_)
        refine lv_goto (tgt := 4) hx hb dX8_cutsOf_43 rfl ?_
        exact ih4 (nn + 1, i + 1) (by (try dsimp only); exact ⟨by omega, by omega, by rw [A_cuM_s _ hI.1, if_neg c_2, hI.2.2]⟩) (by (try dsimp only); omega) _ _ _ hP hD hS (lv_sub hl [0, 1, 2, 3] rfl)
  · (try dsimp only); exact ⟨by decide, by omega, rfl⟩
