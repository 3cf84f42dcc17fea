set_option maxHeartbeats 4000000 in
set_option maxRecDepth 100000 in
theorem gf_worthOfCell (l : Launch) (D : va_G) (k : Nat → ClassId) (sz : Nat) (t : Nat) (t_a : Nat → Nat) (t_N : Nat → Nat) (t_J : Nat → Int32) (t_F : Nat → Nat → Int32) (j : Nat) (i : Nat) (hj : j < 4) (hi : i < 8) : MI l yX6_worthOfCell wsX6_worthOfCell ({ frames := 0, cells := 0, slots := 0, locals := 0 }) D k [.ref t, .int (nI j), .int (nI i)] [oqT t t_a t_N t_J, oqF0 k t_a t_F, oqF1 k t_a t_F, oqF2 k t_a t_F, oqF3 k t_a t_F, oqF4 k t_a t_F, oqF5 k t_a t_F, oqF6 k t_a t_F] sz (fun (r : Int32) (u : Unit) => r = A_wc (t_F 1 j) (t_F 0 i) i) (fun (u : Unit) => [oqT t t_a t_N t_J, oqF0 k t_a t_F, oqF1 k t_a t_F, oqF2 k t_a t_F, oqF3 k t_a t_F, oqF4 k t_a t_F, oqF5 k t_a t_F, oqF6 k t_a t_F]) := by
  refine Met.ofW (cc := cX6_worthOfCell) (maxL := 6) (ret := (some .int)) hpn_X6 rfl ?_
  intro p e s m args below meth c s₁ B hml hv
  obtain ⟨rfl, hsz, hP, hK, hD0, hN⟩ := hv
  have hx := B.exec
  have hb := B.bytes
  have hr := B.returns
  have hlocks := B.notSynchronized
  have hts := atoms_spec (ws := wsX6_worthOfCell) B.pre
  have hown := findClass_of_methodNamed B.named
  have hown : s.vm.findClass RX6 = some m.cls := hown
  have hiX6 : ∀ w ∈ u_ws RX6 TX6 15, w ∈ wsX6_worthOfCell := fun w9 hw9 => List.mem_cons_of_mem _ (igX6 w9 hw9)
  have fl9 := hts (.fieldLink RX6 9 "HalfScales$Thing" "weights" "[I") (List.mem_cons_of_mem _ (hs_inG 1 35 rfl rfl))
  have fl15 := hts (.fieldLink RX6 15 "HalfScales$Thing" "kindOf" "[I") (List.mem_cons_of_mem _ (hs_inG 1 38 rfl rfl))
  subst hsz
  have hD := hD0.self (sz := s.heap.size)
  generalize hAe : va_A [oqT t t_a t_N t_J, oqF0 k t_a t_F, oqF1 k t_a t_F, oqF2 k t_a t_F, oqF3 k t_a t_F, oqF4 k t_a t_F, oqF5 k t_a t_F, oqF6 k t_a t_F] s.heap.size = A at hD ⊢
  have hA : ∀ q : Nat, s.heap.size ≤ q → A q := fun q h => by rw [← hAe]; exact Or.inr h
  have hS : va_S A s.heap s.heap [] := va_S.rf
  have hl := lv_entry ([.ref t, .int (nI j), .int (nI i)]) (n := 6) (Nat.le_of_ble_eq_true rfl)
  rw [lg_entry_eq]
  generalize (lg_sl ([.ref t, .int (nI j), .int (nI i)]) ++ List.replicate (6 - (lg_sl ([.ref t, .int (nI j), .int (nI i)])).length) Slot.unset).toArray = ls at hl ⊢
  have hl : lv_has ls 6 [(0, .ref t), (1, .int (nI j)), (2, .int (nI i))] := hl
  have hP : va_P D vwCl [oqT t t_a t_N t_J, oqF0 k t_a t_F, oqF1 k t_a t_F, oqF2 k t_a t_F, oqF3 k t_a t_F, oqF4 k t_a t_F, oqF5 k t_a t_F, oqF6 k t_a t_F] s.heap := hP
  refine lv_aload_n hx hb dX6_worthOfCell_0 rfl (lv_at hl 0 rfl) ?_
  refine va_get (D := D) (ci := 5) (v := .ref (t_a 0)) (C := RX6) (T := TX6) (N := 15) hx hb hts hiX6 hown hK hP 0 rfl rfl 0 (Nat.le_of_ble_eq_true rfl) fl9 (fun _ h9 => h9) rfl dX6_worthOfCell_1 ?_
  refine lv_iload_n hx hb dX6_worthOfCell_4 rfl (lv_at hl 2 rfl) ?_
  refine va_iald hx hb hK hP 1 0 rfl rfl (vp_in_nI (show i < 8 by omega) (by decide)) dX6_worthOfCell_5 ?_
  refine hs_topi (t_F 0 i) (by rw [nI_clamp (by omega)]) ?_
  refine lv_istore_n (lv' := [(3, .int (t_F 0 i)), (0, .ref t), (1, .int (nI j)), (2, .int (nI i))]) hx hb dX6_worthOfCell_6 rfl hl (Nat.le_of_ble_eq_true rfl) rfl (fun ls hl => ?_)
  refine lv_aload_n hx hb dX6_worthOfCell_7 rfl (lv_at hl 1 rfl) ?_
  refine va_get (D := D) (ci := 5) (v := .ref (t_a 1)) (C := RX6) (T := TX6) (N := 15) hx hb hts hiX6 hown hK hP 0 rfl rfl 1 (Nat.le_of_ble_eq_true rfl) fl15 (fun _ h9 => h9) rfl dX6_worthOfCell_8 ?_
  refine lv_iload_n hx hb dX6_worthOfCell_11 rfl (lv_at hl 2 rfl) ?_
  refine va_iald hx hb hK hP 2 0 rfl rfl (vp_in_nI (show j < 4 by omega) (by decide)) dX6_worthOfCell_12 ?_
  refine hs_topi (t_F 1 j) (by rw [nI_clamp (by omega)]) ?_
  refine lv_istore (lv' := [(4, .int (t_F 1 j)), (3, .int (t_F 0 i)), (0, .ref t), (1, .int (nI j)), (2, .int (nI i))]) hx hb dX6_worthOfCell_13 hl (Nat.le_of_ble_eq_true rfl) rfl (fun ls hl => ?_)
  refine lv_iload hx hb dX6_worthOfCell_15 (lv_at hl 0 rfl) ?_
  refine lv_iconst (v := 3) hx hb dX6_worthOfCell_17 hki_3 ?_
  refine lv_icmp_ne (tgt := 25) hx hb dX6_worthOfCell_18 rfl (fun c_1 => ?_) (fun c_1 => ?_)
  · refine lv_iload_n hx hb dX6_worthOfCell_25 rfl (lv_at hl 4 rfl) ?_
    refine lv_if_ne (tgt := 40) hx hb dX6_worthOfCell_26 rfl (fun c_2 => ?_) (fun c_2 => ?_)
    · have nc_2 : ¬ i = 0 := fun hq9 => c_2 ((nI_eq (a := i) (b := 0) (by omega) (by omega)).mpr hq9)
      refine lv_iload_n hx hb dX6_worthOfCell_40 rfl (lv_at hl 1 rfl) ?_
      refine lv_istore (lv' := [(5, .int (t_F 0 i)), (4, .int (t_F 1 j)), (3, .int (t_F 0 i)), (0, .ref t), (1, .int (nI j)), (2, .int (nI i))]) hx hb dX6_worthOfCell_41 hl (Nat.le_of_ble_eq_true rfl) rfl (fun ls hl => ?_)
      refine lv_iload hx hb dX6_worthOfCell_43 (lv_at hl 1 rfl) ?_
      refine lv_iconst (v := 2) hx hb dX6_worthOfCell_45 hki_2 ?_
      refine lv_icmp_ne (tgt := 63) hx hb dX6_worthOfCell_46 rfl (fun c_3 => ?_) (fun c_3 => ?_)
      · refine lv_iload hx hb dX6_worthOfCell_63 (lv_at hl 0 rfl) ?_
        exact hs_iret hx hb hr hlocks hK hP hD hS () [0, 1, 2, 3, 4, 5, 6, 7] rfl (hs_upnd rfl) dX6_worthOfCell_65 ((by rw [A_wc, if_neg c_1, if_neg c_3, A_wv, if_neg c_2]))
      · refine lv_iload_n hx hb dX6_worthOfCell_49 rfl (lv_at hl 2 rfl) ?_
        refine lv_iconst (v := 2) hx hb dX6_worthOfCell_50 hki_2 ?_
        refine lv_irem hx hb dX6_worthOfCell_51 (by decide) ?_
        refine lv_iconst (v := 1) hx hb dX6_worthOfCell_52 hki_1 ?_
        refine lv_icmp_ne (tgt := 63) hx hb dX6_worthOfCell_53 rfl (fun c_4 => ?_) (fun c_4 => ?_)
        · refine lv_iload hx hb dX6_worthOfCell_63 (lv_at hl 0 rfl) ?_
          exact hs_iret hx hb hr hlocks hK hP hD hS () [0, 1, 2, 3, 4, 5, 6, 7] rfl (hs_upnd rfl) dX6_worthOfCell_65 ((by rw [A_wc, if_neg c_1, if_pos c_3, if_neg c_4, A_wv, if_neg c_2]))
        · refine lv_iload hx hb dX6_worthOfCell_56 (lv_at hl 0 rfl) ?_
          refine lv_iconst (v := 1) hx hb dX6_worthOfCell_58 hki_1 ?_
          refine lv_iadd hx hb dX6_worthOfCell_59 ?_
          refine lv_goto (tgt := 65) hx hb dX6_worthOfCell_60 rfl ?_
          exact hs_iret hx hb hr hlocks hK hP hD hS () [0, 1, 2, 3, 4, 5, 6, 7] rfl (hs_upnd rfl) dX6_worthOfCell_65 ((by rw [A_wc, if_neg c_1, if_pos c_3, if_pos c_4, A_wv, if_neg c_2]))
    · have nc_2 : i = 0 := (nI_eq (a := i) (b := 0) (by omega) (by omega)).mp c_2
      refine lv_iload hx hb dX6_worthOfCell_29 (lv_at hl 0 rfl) ?_
      refine lv_if_eq (tgt := 40) hx hb dX6_worthOfCell_31 rfl (fun c_5 => ?_) (fun c_5 => ?_)
      · refine lv_iload_n hx hb dX6_worthOfCell_40 rfl (lv_at hl 1 rfl) ?_
        refine lv_istore (lv' := [(5, .int (t_F 0 i)), (4, .int (t_F 1 j)), (3, .int (t_F 0 i)), (0, .ref t), (1, .int (nI j)), (2, .int (nI i))]) hx hb dX6_worthOfCell_41 hl (Nat.le_of_ble_eq_true rfl) rfl (fun ls hl => ?_)
        refine lv_iload hx hb dX6_worthOfCell_43 (lv_at hl 1 rfl) ?_
        refine lv_iconst (v := 2) hx hb dX6_worthOfCell_45 hki_2 ?_
        refine lv_icmp_ne (tgt := 63) hx hb dX6_worthOfCell_46 rfl (fun c_6 => ?_) (fun c_6 => ?_)
        · refine lv_iload hx hb dX6_worthOfCell_63 (lv_at hl 0 rfl) ?_
          exact hs_iret hx hb hr hlocks hK hP hD hS () [0, 1, 2, 3, 4, 5, 6, 7] rfl (hs_upnd rfl) dX6_worthOfCell_65 ((by rw [A_wc, if_neg c_1, if_neg c_6, A_wv, if_pos c_2, if_pos c_5]))
        · refine lv_iload_n hx hb dX6_worthOfCell_49 rfl (lv_at hl 2 rfl) ?_
          refine lv_iconst (v := 2) hx hb dX6_worthOfCell_50 hki_2 ?_
          refine lv_irem hx hb dX6_worthOfCell_51 (by decide) ?_
          refine lv_iconst (v := 1) hx hb dX6_worthOfCell_52 hki_1 ?_
          refine lv_icmp_ne (tgt := 63) hx hb dX6_worthOfCell_53 rfl (fun c_7 => ?_) (fun c_7 => ?_)
          · refine lv_iload hx hb dX6_worthOfCell_63 (lv_at hl 0 rfl) ?_
            exact hs_iret hx hb hr hlocks hK hP hD hS () [0, 1, 2, 3, 4, 5, 6, 7] rfl (hs_upnd rfl) dX6_worthOfCell_65 ((by rw [A_wc, if_neg c_1, if_pos c_6, if_neg c_7, A_wv, if_pos c_2, if_pos c_5]))
          · refine lv_iload hx hb dX6_worthOfCell_56 (lv_at hl 0 rfl) ?_
            refine lv_iconst (v := 1) hx hb dX6_worthOfCell_58 hki_1 ?_
            refine lv_iadd hx hb dX6_worthOfCell_59 ?_
            refine lv_goto (tgt := 65) hx hb dX6_worthOfCell_60 rfl ?_
            exact hs_iret hx hb hr hlocks hK hP hD hS () [0, 1, 2, 3, 4, 5, 6, 7] rfl (hs_upnd rfl) dX6_worthOfCell_65 ((by rw [A_wc, if_neg c_1, if_pos c_6, if_pos c_7, A_wv, if_pos c_2, if_pos c_5]))
      · refine lv_iconst (v := 2) hx hb dX6_worthOfCell_34 hki_2 ?_
        refine lv_iload_n hx hb dX6_worthOfCell_35 rfl (lv_at hl 1 rfl) ?_
        refine lv_imul hx hb dX6_worthOfCell_36 ?_
        refine lv_goto (tgt := 41) hx hb dX6_worthOfCell_37 rfl ?_
        refine lv_istore (lv' := [(5, .int (2 * (t_F 0 i))), (4, .int (t_F 1 j)), (3, .int (t_F 0 i)), (0, .ref t), (1, .int (nI j)), (2, .int (nI i))]) hx hb dX6_worthOfCell_41 hl (Nat.le_of_ble_eq_true rfl) rfl (fun ls hl => ?_)
        refine lv_iload hx hb dX6_worthOfCell_43 (lv_at hl 1 rfl) ?_
        refine lv_iconst (v := 2) hx hb dX6_worthOfCell_45 hki_2 ?_
        refine lv_icmp_ne (tgt := 63) hx hb dX6_worthOfCell_46 rfl (fun c_8 => ?_) (fun c_8 => ?_)
        · refine lv_iload hx hb dX6_worthOfCell_63 (lv_at hl 0 rfl) ?_
          exact hs_iret hx hb hr hlocks hK hP hD hS () [0, 1, 2, 3, 4, 5, 6, 7] rfl (hs_upnd rfl) dX6_worthOfCell_65 ((by rw [A_wc, if_neg c_1, if_neg c_8, A_wv, if_pos c_2, if_neg c_5]))
        · refine lv_iload_n hx hb dX6_worthOfCell_49 rfl (lv_at hl 2 rfl) ?_
          refine lv_iconst (v := 2) hx hb dX6_worthOfCell_50 hki_2 ?_
          refine lv_irem hx hb dX6_worthOfCell_51 (by decide) ?_
          refine lv_iconst (v := 1) hx hb dX6_worthOfCell_52 hki_1 ?_
          refine lv_icmp_ne (tgt := 63) hx hb dX6_worthOfCell_53 rfl (fun c_9 => ?_) (fun c_9 => ?_)
          · refine lv_iload hx hb dX6_worthOfCell_63 (lv_at hl 0 rfl) ?_
            exact hs_iret hx hb hr hlocks hK hP hD hS () [0, 1, 2, 3, 4, 5, 6, 7] rfl (hs_upnd rfl) dX6_worthOfCell_65 ((by rw [A_wc, if_neg c_1, if_pos c_8, if_neg c_9, A_wv, if_pos c_2, if_neg c_5]))
          · refine lv_iload hx hb dX6_worthOfCell_56 (lv_at hl 0 rfl) ?_
            refine lv_iconst (v := 1) hx hb dX6_worthOfCell_58 hki_1 ?_
            refine lv_iadd hx hb dX6_worthOfCell_59 ?_
            refine lv_goto (tgt := 65) hx hb dX6_worthOfCell_60 rfl ?_
            exact hs_iret hx hb hr hlocks hK hP hD hS () [0, 1, 2, 3, 4, 5, 6, 7] rfl (hs_upnd rfl) dX6_worthOfCell_65 ((by rw [A_wc, if_neg c_1, if_pos c_8, if_pos c_9, A_wv, if_pos c_2, if_neg c_5]))
  · refine lv_iload_n hx hb dX6_worthOfCell_21 rfl (lv_at hl 1 rfl) ?_
    refine lv_iconst (v := 2) hx hb dX6_worthOfCell_22 hki_2 ?_
    refine lv_idiv hx hb dX6_worthOfCell_23 (by decide) ?_
    exact hs_iret hx hb hr hlocks hK hP hD hS () [0, 1, 2, 3, 4, 5, 6, 7] rfl (hs_upnd rfl) dX6_worthOfCell_24 ((by rw [A_wc, if_pos c_1]))

set_option maxHeartbeats 4000000 in
set_option maxRecDepth 100000 in
theorem gf_worthOf (l : Launch) (D : va_G) (k : Nat → ClassId) (sz : Nat) (t : Nat) (t_a : Nat → Nat) (t_N : Nat → Nat) (t_J : Nat → Int32) (t_F : Nat → Nat → Int32) (j : Nat) (cells : Int32) (hN0 : thN t_N) (hj : j < 4) : MI l yX6_worthOf wsX6_worthOf ({ frames := 1, cells := 0, slots := 0, locals := 25 }) D k [.ref t, .int (nI j), .int cells] [oqT t t_a t_N t_J, oqF0 k t_a t_F, oqF1 k t_a t_F, oqF2 k t_a t_F, oqF3 k t_a t_F, oqF4 k t_a t_F, oqF5 k t_a t_F, oqF6 k t_a t_F] sz (fun (r : Int32) (u : Unit) => r = A_ws (A_fc t_F j) cells (t_N 0)) (fun (u : Unit) => [oqT t t_a t_N t_J, oqF0 k t_a t_F, oqF1 k t_a t_F, oqF2 k t_a t_F, oqF3 k t_a t_F, oqF4 k t_a t_F, oqF5 k t_a t_F, oqF6 k t_a t_F]) := by
  refine Met.ofW (cc := cX6_worthOf) (maxL := 5) (ret := (some .int)) hpn_X6 rfl ?_
  intro p e s m args below meth c s₁ B hml hv
  obtain ⟨rfl, hsz, hP, hK, hD0, hN⟩ := hv
  have hx := B.exec
  have hb := B.bytes
  have hr := B.returns
  have hlocks := B.notSynchronized
  have hts := atoms_spec (ws := wsX6_worthOf) B.pre
  have hown := findClass_of_methodNamed B.named
  have hown : s.vm.findClass RX6 = some m.cls := hown
  have hiX6 : ∀ w ∈ u_ws RX6 TX6 15, w ∈ wsX6_worthOf := fun w9 hw9 => List.mem_cons_of_mem _ (igX6 w9 hw9)
  have fl36 := hts (.fieldLink RX6 36 "HalfScales$Thing" "cellCount" "I") (List.mem_cons_of_mem _ (hs_inG 1 51 rfl rfl))
  obtain ⟨I0, I1, ⟨I2, I2b⟩, I3, I4⟩ := hN0
  subst hsz
  have hD := hD0.self (sz := s.heap.size)
  generalize hAe : va_A [oqT t t_a t_N t_J, oqF0 k t_a t_F, oqF1 k t_a t_F, oqF2 k t_a t_F, oqF3 k t_a t_F, oqF4 k t_a t_F, oqF5 k t_a t_F, oqF6 k t_a t_F] s.heap.size = A at hD ⊢
  have hA : ∀ q : Nat, s.heap.size ≤ q → A q := fun q h => by rw [← hAe]; exact Or.inr h
  have hS : va_S A s.heap s.heap [] := va_S.rf
  have hl := lv_entry ([.ref t, .int (nI j), .int cells]) (n := 5) (Nat.le_of_ble_eq_true rfl)
  rw [lg_entry_eq]
  generalize (lg_sl ([.ref t, .int (nI j), .int cells]) ++ List.replicate (5 - (lg_sl ([.ref t, .int (nI j), .int cells])).length) Slot.unset).toArray = ls at hl ⊢
  have hl : lv_has ls 5 [(0, .ref t), (1, .int (nI j)), (2, .int cells)] := hl
  have hP : va_P D vwCl [oqT t t_a t_N t_J, oqF0 k t_a t_F, oqF1 k t_a t_F, oqF2 k t_a t_F, oqF3 k t_a t_F, oqF4 k t_a t_F, oqF5 k t_a t_F, oqF6 k t_a t_F] s.heap := hP
  refine lv_iconst (v := 0) hx hb dX6_worthOf_0 hki_0 ?_
  refine lv_istore_n (lv' := [(3, .int 0), (0, .ref t), (1, .int (nI j)), (2, .int cells)]) hx hb dX6_worthOf_1 rfl hl (Nat.le_of_ble_eq_true rfl) rfl (fun ls hl => ?_)
  refine lv_iconst (v := 0) hx hb dX6_worthOf_2 hki_0 ?_
  refine lv_istore (lv' := [(4, .int 0), (3, .int 0), (0, .ref t), (1, .int (nI j)), (2, .int cells)]) hx hb dX6_worthOf_3 hl (Nat.le_of_ble_eq_true rfl) rfl (fun ls hl => ?_)
  refine hs_while (σ := Int32 × Nat) (fun x => x.2 ≤ t_N 0 ∧ x.1 = A_ws (A_fc t_F j) cells x.2) (fun x => t_N 0 - x.2) (fun x => [oqT t t_a t_N t_J, oqF0 k t_a t_F, oqF1 k t_a t_F, oqF2 k t_a t_F, oqF3 k t_a t_F, oqF4 k t_a t_F, oqF5 k t_a t_F, oqF6 k t_a t_F]) (fun x => [(4, .int (nI (x.2))), (3, .int (x.1)), (0, .ref t), (1, .int (nI j)), (2, .int cells)]) ?_ (0, 0) ?_ hP hD hS hl
  · intro x hI ih5 H locs ls hP hD hS hl
    obtain ⟨sum, i⟩ := x
    try dsimp only at hI
    have hP : va_P D vwCl [oqT t t_a t_N t_J, oqF0 k t_a t_F, oqF1 k t_a t_F, oqF2 k t_a t_F, oqF3 k t_a t_F, oqF4 k t_a t_F, oqF5 k t_a t_F, oqF6 k t_a t_F] H := hP
    have hD : va_D A [oqT t t_a t_N t_J, oqF0 k t_a t_F, oqF1 k t_a t_F, oqF2 k t_a t_F, oqF3 k t_a t_F, oqF4 k t_a t_F, oqF5 k t_a t_F, oqF6 k t_a t_F] := hD
    have hl : lv_has ls 5 [(4, .int (nI i)), (3, .int sum), (0, .ref t), (1, .int (nI j)), (2, .int cells)] := hl
    refine lv_iload hx hb dX6_worthOf_5 (lv_at hl 0 rfl) ?_
    refine lv_aload_n hx hb dX6_worthOf_7 rfl (lv_at hl 2 rfl) ?_
    refine va_get (D := D) (ci := 5) (v := .int (nI (t_N 0))) (C := RX6) (T := TX6) (N := 15) hx hb hts hiX6 hown hK hP 0 rfl rfl 7 (Nat.le_of_ble_eq_true rfl) fl36 (fun _ h9 => h9) rfl dX6_worthOf_8 ?_
    refine lv_icmp_ge (tgt := 40) hx hb dX6_worthOf_11 rfl (fun c_1 => ?_) (fun c_1 => ?_)
    · have nc_1 : (t_N 0) ≤ i := (nI_leI (a := (t_N 0)) (b := i) (by omega) (by omega)).mp c_1
      refine lv_iload_n hx hb dX6_worthOf_40 rfl (lv_at hl 1 rfl) ?_
      exact hs_iret hx hb hr hlocks hK hP hD hS () [0, 1, 2, 3, 4, 5, 6, 7] rfl (hs_upnd rfl) dX6_worthOf_41 (by rw [hI.2, show i = t_N 0 by omega])
    · have nc_1 : ¬ (t_N 0) ≤ i := fun hq9 => c_1 ((nI_leI (a := (t_N 0)) (b := i) (by omega) (by omega)).mpr hq9)
      refine lv_iload_n hx hb dX6_worthOf_14 rfl (lv_at hl 4 rfl) ?_
      refine lv_iload hx hb dX6_worthOf_15 (lv_at hl 0 rfl) ?_
      refine lv_ishr hx hb dX6_worthOf_17 ?_
      refine lv_iconst (v := 1) hx hb dX6_worthOf_18 hki_1 ?_
      refine lv_iand hx hb dX6_worthOf_19 ?_
      refine lv_iconst (v := 1) hx hb dX6_worthOf_20 hki_1 ?_
      refine lv_icmp_ne (tgt := 34) hx hb dX6_worthOf_21 rfl (fun c_2 => ?_) (fun c_2 => ?_)
      · refine lv_iinc (v := nI (i + 1)) (lv' := [(4, .int (nI (i + 1))), (3, .int sum), (0, .ref t), (1, .int (nI j)), (2, .int cells)]) hx hb dX6_worthOf_34 hl (k := 0) rfl (nI_add (i) 1) (Nat.le_of_ble_eq_true rfl) rfl (fun ls hl => ?_)
        refine lv_goto (tgt := 5) hx hb dX6_worthOf_37 rfl ?_
        exact ih5 (sum, i + 1) (by (try dsimp only); exact ⟨by omega, by rw [A_ws, if_neg c_2, hI.2]; try rfl⟩) (by (try dsimp only); omega) _ _ _ hP hD hS (lv_sub hl [0, 1, 2, 3, 4] rfl)
      · refine lv_iload_n hx hb dX6_worthOf_24 rfl (lv_at hl 1 rfl) ?_
        refine lv_aload_n hx hb dX6_worthOf_25 rfl (lv_at hl 2 rfl) ?_
        refine lv_iload_n hx hb dX6_worthOf_26 rfl (lv_at hl 3 rfl) ?_
        refine lv_iload hx hb dX6_worthOf_27 (lv_at hl 0 rfl) ?_
        refine hs_ciM (va_runV (As := [.int (nI j), .int (nI i)]) (rest := [.int sum]) ⟨hx, hb, hml, hown, hts⟩ (gf_worthOfCell l D k _ t t_a t_N t_J t_F j i (by omega) (by omega)) (cwV 2 hts gX6_worthOf_X6_worthOfCell rfl rfl rfl ⟨rfl, hq_X6_worthOfCell⟩ ⟨Nat.le_of_ble_eq_true rfl, Nat.le_of_ble_eq_true rfl⟩) (hs_preV hK hN (hs_subP (w := [_, _, _, _, _, _, _, _]) hP [0, 1, 2, 3, 4, 5, 6, 7] rfl) (hD.sub (ws' := [_, _, _, _, _, _, _, _]) [0, 1, 2, 3, 4, 5, 6, 7] (hs_upnd rfl) rfl) (ci := 5) (q0 := 0) rfl rfl) rfl rfl hl.1 rfl (lv_room (Nat.le_of_ble_eq_true rfl)) dX6_worthOf_29 ⟨Nat.le_of_ble_eq_true rfl, Nat.le_of_ble_eq_true rfl⟩) hP hD hS hA [false, false, false, false, false, false, false, false] [] [_, _, _, _, _, _, _, _] rfl [0, 1, 2, 3, 4, 5, 6, 7] rfl [0, 1, 2, 3, 4, 5, 6, 7] (fun u_5 => [_, _, _, _, _, _, _, _]) (fun _ => rfl) (hs_upnd rfl) [false, false, false, false, false, false, false, false] (fun u_5 => [_, _, _, _, _, _, _, _]) (fun _ => rfl) (fun r_3 u_5 H locs hw_4 hP hD hS => ?_)
        refine hs_topi (A_wc (t_F 1 j) (t_F 0 i) i) hw_4 ?_
        refine lv_iadd hx hb dX6_worthOf_32 ?_
        refine lv_istore_n (lv' := [(3, .int (sum + (A_wc (t_F 1 j) (t_F 0 i) i))), (4, .int (nI i)), (0, .ref t), (1, .int (nI j)), (2, .int cells)]) hx hb dX6_worthOf_33 rfl hl (Nat.le_of_ble_eq_true rfl) rfl (fun ls hl => ?_)
        refine lv_iinc (v := nI (i + 1)) (lv' := [(4, .int (nI (i + 1))), (3, .int (sum + (A_wc (t_F 1 j) (t_F 0 i) i))), (0, .ref t), (1, .int (nI j)), (2, .int cells)]) hx hb dX6_worthOf_34 hl (k := 1) rfl (nI_add (i) 1) (Nat.le_of_ble_eq_true rfl) rfl (fun ls hl => ?_)
        refine lv_goto (tgt := 5) hx hb dX6_worthOf_37 rfl ?_
        exact ih5 (sum + (A_wc (t_F 1 j) (t_F 0 i) i), i + 1) (by (try dsimp only); exact ⟨by omega, by rw [A_ws, if_pos c_2, hI.2]; try rfl⟩) (by (try dsimp only); omega) _ _ _ hP hD hS (lv_sub hl [0, 1, 2, 3, 4] rfl)
  · (try dsimp only); exact ⟨Nat.zero_le _, rfl⟩
