set_option maxHeartbeats 4000000 in
set_option maxRecDepth 100000 in
theorem gf_worthOfCell (l : Launch) (D : va_G) (k : Nat → ClassId) (sz : Nat) (t : Nat) (t_a : Nat → Nat) (t_N : Nat → Nat) (t_J : Nat → Int32) (t_F : Nat → Nat → Int32) (j : Nat) (i : Nat) (hj : j < 4) (hi : i < 8) : MI l yX6_worthOfCell wsX6_worthOfCell ({ frames := 0, cells := 0, slots := 0, locals := 0 }) D k [.ref t, .int (nI j), .int (nI i)] [oqT t t_a t_N t_J, oqF0 k t_a t_F, oqF1 k t_a t_F, oqF2 k t_a t_F, oqF3 k t_a t_F, oqF4 k t_a t_F, oqF5 k t_a t_F, oqF6 k t_a t_F] sz (fun (r : Int32) (u : Unit) => r = A_wc (t_F 1 j) (t_F 0 i) i) (fun (u : Unit) => [oqT t t_a t_N t_J, oqF0 k t_a t_F, oqF1 k t_a t_F, oqF2 k t_a t_F, oqF3 k t_a t_F, oqF4 k t_a t_F, oqF5 k t_a t_F, oqF6 k t_a t_F]) := by
  refine Met.ofW (cc := cX6_worthOfCell) (maxL := 6) (ret := (some .int)) hpn_X6 rfl ?_
  intro p e s m args below meth c s₁ B hml hv
  obtain ⟨rfl, hsz, hP, hK, hD0, hN⟩ := hv
  have hx := B.exec
  have hb := B.bytes
  have hr := B.returns
  have hlocks := B.notSynchronized
  have hts := atoms_spec (ws := wsX6_worthOfCell) B.pre
  have hown := findClass_of_methodNamed B.named
  have hown : s.vm.findClass RX6 = some m.cls := hown
  have hiX6 : ∀ w ∈ u_ws RX6 TX6 15, w ∈ wsX6_worthOfCell := fun w9 hw9 => List.mem_cons_of_mem _ (igX6 w9 hw9)
  have fl9 := hts (.fieldLink RX6 9 "HalfScales$Thing" "weights" "[I") (List.mem_cons_of_mem _ (hs_inG 1 35 rfl rfl))
  have fl15 := hts (.fieldLink RX6 15 "HalfScales$Thing" "kindOf" "[I") (List.mem_cons_of_mem _ (hs_inG 1 38 rfl rfl))
  subst hsz
  have hD := hD0.self (sz := s.heap.size)
  generalize hAe : va_A [oqT t t_a t_N t_J, oqF0 k t_a t_F, oqF1 k t_a t_F, oqF2 k t_a t_F, oqF3 k t_a t_F, oqF4 k t_a t_F, oqF5 k t_a t_F, oqF6 k t_a t_F] s.heap.size = A at hD ⊢
  have hA : ∀ q : Nat, s.heap.size ≤ q → A q := fun q h => by rw [← hAe]; exact Or.inr h
  have hS : va_S A s.heap s.heap [] := va_S.rf
  have hl := lv_entry ([.ref t, .int (nI j), .int (nI i)]) (n := 6) (Nat.le_of_ble_eq_true rfl)
  rw [lg_entry_eq]
  generalize (lg_sl ([.ref t, .int (nI j), .int (nI i)]) ++ List.replicate (6 - (lg_sl ([.ref t, .int (nI j), .int (nI i)])).length) Slot.unset).toArray = ls at hl ⊢
  have hl : lv_has ls 6 [(0, .ref t), (1, .int (nI j)), (2, .int (nI i))] := hl
  have hP : va_P D vwCl [oqT t t_a t_N t_J, oqF0 k t_a t_F, oqF1 k t_a t_F, oqF2 k t_a t_F, oqF3 k t_a t_F, oqF4 k t_a t_F, oqF5 k t_a t_F, oqF6 k t_a t_F] s.heap := hP
  refine lv_aload_n hx hb dX6_worthOfCell_0 rfl (lv_at hl 0 rfl) ?_
  refine va_get (D := D) (ci := 5) (v := .ref (t_a 0)) (C := RX6) (T := TX6) (N := 15) hx hb hts hiX6 hown hK hP 0 rfl rfl 0 (Nat.le_of_ble_eq_true rfl) fl9 (fun _ h9 => h9) rfl dX6_worthOfCell_1 ?_
  refine lv_iload_n hx hb dX6_worthOfCell_4 rfl (lv_at hl 2 rfl) ?_
  refine va_iald hx hb hK hP 1 0 rfl rfl (vp_in_nI (show i < 8 by omega) (by decide)) dX6_worthOfCell_5 ?_
  refine hs_topi (t_F 0 i) (by rw [nI_clamp (by omega)]) ?_
  refine lv_istore_n (lv' := [(3, .int (t_F 0 i)), (0, .ref t), (1, .int (nI j)), (2, .int (nI i))]) hx hb dX6_worthOfCell_6 rfl hl (Nat.le_of_ble_eq_true rfl) rfl (fun ls hl => ?_)
  refine lv_aload_n hx hb dX6_worthOfCell_7 rfl (lv_at hl 1 rfl) ?_
  refine va_get (D := D) (ci := 5) (v := .ref (t_a 1)) (C := RX6) (T := TX6) (N := 15) hx hb hts hiX6 hown hK hP 0 rfl rfl 1 (Nat.le_of_ble_eq_true rfl) fl15 (fun _ h9 => h9) rfl dX6_worthOfCell_8 ?_
  refine lv_iload_n hx hb dX6_worthOfCell_11 rfl (lv_at hl 2 rfl) ?_
  refine va_iald hx hb hK hP 2 0 rfl rfl (vp_in_nI (show j < 4 by omega) (by decide)) dX6_worthOfCell_12 ?_
  refine hs_topi (t_F 1 j) (by rw [nI_clamp (by omega)]) ?_
  refine lv_istore (lv' := [(4, .int (t_F 1 j)), (3, .int (t_F 0 i)), (0, .ref t), (1, .int (nI j)), (2, .int (nI i))]) hx hb dX6_worthOfCell_13 hl (Nat.le_of_ble_eq_true rfl) rfl (fun ls hl => ?_)
  refine lv_iload hx hb dX6_worthOfCell_15 (lv_at hl 0 rfl) ?_
  refine lv_iconst (v := 3) hx hb dX6_worthOfCell_17 hki_3 ?_
  refine lv_icmp_ne (tgt := 25) hx hb dX6_worthOfCell_18 rfl (fun c_1 => ?_) (fun c_1 => ?_)
  · refine lv_iload_n hx hb dX6_worthOfCell_25 rfl (lv_at hl 4 rfl) ?_
    refine lv_if_ne (tgt := 40) hx hb dX6_worthOfCell_26 rfl (fun c_2 => ?_) (fun c_2 => ?_)
    · have nc_2 : ¬ i = 0 := fun hq9 => c_2 ((nI_eq (a := i) (b := 0) (by omega) (by omega)).mpr hq9)
      refine lv_iload_n hx hb dX6_worthOfCell_40 rfl (lv_at hl 1 rfl) ?_
      refine lv_istore (lv' := [(5, .int (t_F 0 i)), (4, .int (t_F 1 j)), (3, .int (t_F 0 i)), (0, .ref t), (1, .int (nI j)), (2, .int (nI i))]) hx hb dX6_worthOfCell_41 hl (Nat.le_of_ble_eq_true rfl) rfl (fun ls hl => ?_)
      refine lv_iload hx hb dX6_worthOfCell_43 (lv_at hl 1 rfl) ?_
      refine lv_iconst (v := 2) hx hb dX6_worthOfCell_45 hki_2 ?_
      refine lv_icmp_ne (tgt := 63) hx hb dX6_worthOfCell_46 rfl (fun c_3 => ?_) (fun c_3 => ?_)
      · refine lv_iload hx hb dX6_worthOfCell_63 (lv_at hl 0 rfl) ?_
        exact hs_iret hx hb hr hlocks hK hP hD hS () [0, 1, 2, 3, 4, 5, 6, 7] rfl (hs_upnd rfl) dX6_worthOfCell_65 ((by rw [A_wc, if_neg c_1, if_neg c_3, A_wv, if_neg c_2]))
      · refine lv_iload_n hx hb dX6_worthOfCell_49 rfl (lv_at hl 2 rfl) ?_
        refine lv_iconst (v := 2) hx hb dX6_worthOfCell_50 hki_2 ?_
        refine lv_irem hx hb dX6_worthOfCell_51 (by decide) ?_
        refine lv_iconst (v := 1) hx hb dX6_worthOfCell_52 hki_1 ?_
        refine lv_icmp_ne (tgt := 63) hx hb dX6_worthOfCell_53 rfl (fun c_4 => ?_) (fun c_4 => ?_)
        · refine lv_iload hx hb dX6_worthOfCell_63 (lv_at hl 0 rfl) ?_
          exact hs_iret hx hb hr hlocks hK hP hD hS () [0, 1, 2, 3, 4, 5, 6, 7] rfl (hs_upnd rfl) dX6_worthOfCell_65 ((by rw [A_wc, if_neg c_1, if_pos c_3, if_neg c_4, A_wv, if_neg c_2]))
        · refine lv_iload hx hb dX6_worthOfCell_56 (lv_at hl 0 rfl) ?_
          refine lv_iconst (v := 1) hx hb dX6_worthOfCell_58 hki_1 ?_
          refine lv_iadd hx hb dX6_worthOfCell_59 ?_
          refine lv_goto (tgt := 65) hx hb dX6_worthOfCell_60 rfl ?_
          exact hs_iret hx hb hr hlocks hK hP hD hS () [0, 1, 2, 3, 4, 5, 6, 7] rfl (hs_upnd rfl) dX6_worthOfCell_65 ((by rw [A_wc, if_neg c_1, if_pos c_3, if_pos c_4, A_wv, if_neg c_2]))
    · have nc_2 : i = 0 := (nI_eq (a := i) (b := 0) (by omega) (by omega)).mp c_2
      refine lv_iload hx hb dX6_worthOfCell_29 (lv_at hl 0 rfl) ?_
      refine lv_if_eq (tgt := 40) hx hb dX6_worthOfCell_31 rfl (fun c_5 => ?_) (fun c_5 => ?_)
      · refine lv_iload_n hx hb dX6_worthOfCell_40 rfl (lv_at hl 1 rfl) ?_
        refine lv_istore (lv' := [(5, .int (t_F 0 i)), (4, .int (t_F 1 j)), (3, .int (t_F 0 i)), (0, .ref t), (1, .int (nI j)), (2, .int (nI i))]) hx hb dX6_worthOfCell_41 hl (Nat.le_of_ble_eq_true rfl) rfl (fun ls hl => ?_)
        refine lv_iload hx hb dX6_worthOfCell_43 (lv_at hl 1 rfl) ?_
        refine lv_iconst (v := 2) hx hb dX6_worthOfCell_45 hki_2 ?_
        refine lv_icmp_ne (tgt := 63) hx hb dX6_worthOfCell_46 rfl (fun c_6 => ?_) (fun c_6 => ?_)
        · refine lv_iload hx hb dX6_worthOfCell_63 (lv_at hl 0 rfl) ?_
          exact hs_iret hx hb hr hlocks hK hP hD hS () [0, 1, 2, 3, 4, 5, 6, 7] rfl (hs_upnd rfl) dX6_worthOfCell_65 ((by rw [A_wc, if_neg c_1, if_neg c_6, A_wv, if_pos c_2, if_pos c_5]))
        · refine lv_iload_n hx hb dX6_worthOfCell_49 rfl (lv_at hl 2 rfl) ?_
          refine lv_iconst (v := 2) hx hb dX6_worthOfCell_50 hki_2 ?_
          refine lv_irem hx hb dX6_worthOfCell_51 (by decide) ?_
          refine lv_iconst (v := 1) hx hb dX6_worthOfCell_52 hki_1 ?_
          refine lv_icmp_ne (tgt := 63) hx hb dX6_worthOfCell_53 rfl (fun c_7 => ?_) (fun c_7 => ?_)
          · refine lv_iload hx hb dX6_worthOfCell_63 (lv_at hl 0 rfl) ?_
            exact hs_iret hx hb hr hlocks hK hP hD hS () [0, 1, 2, 3, 4, 5, 6, 7] rfl (hs_upnd rfl) dX6_worthOfCell_65 ((by rw [A_wc, if_neg c_1, if_pos c_6, if_neg c_7, A_wv, if_pos c_2, if_pos c_5]))
          · refine lv_iload hx hb dX6_worthOfCell_56 (lv_at hl 0 rfl) ?_
            refine lv_iconst (v := 1) hx hb dX6_worthOfCell_58 hki_1 ?_
            refine lv_iadd hx hb dX6_worthOfCell_59 ?_
            refine lv_goto (tgt := 65) hx hb dX6_worthOfCell_60 rfl ?_
            exact hs_iret hx hb hr hlocks hK hP hD hS () [0, 1, 2, 3, 4, 5, 6, 7] rfl (hs_upnd rfl) dX6_worthOfCell_65 ((by rw [A_wc, if_neg c_1, if_pos c_6, if_pos c_7, A_wv, if_pos c_2, if_pos c_5]))
      · refine lv_iconst (v := 2) hx hb dX6_worthOfCell_34 hki_2 ?_
        refine lv_iload_n hx hb dX6_worthOfCell_35 rfl (lv_at hl 1 rfl) ?_
        refine lv_imul hx hb dX6_worthOfCell_36 ?_
        refine lv_goto (tgt := 41) hx hb dX6_worthOfCell_37 rfl ?_
        refine lv_istore (lv' := [(5, .int (2 * (t_F 0 i))), (4, .int (t_F 1 j)), (3, .int (t_F 0 i)), (0, .ref t), (1, .int (nI j)), (2, .int (nI i))]) hx hb dX6_worthOfCell_41 hl (Nat.le_of_ble_eq_true rfl) rfl (fun ls hl => ?_)
        refine lv_iload hx hb dX6_worthOfCell_43 (lv_at hl 1 rfl) ?_
        refine lv_iconst (v := 2) hx hb dX6_worthOfCell_45 hki_2 ?_
        refine lv_icmp_ne (tgt := 63) hx hb dX6_worthOfCell_46 rfl (fun c_8 => ?_) (fun c_8 => ?_)
        · refine lv_iload hx hb dX6_worthOfCell_63 (lv_at hl 0 rfl) ?_
          exact hs_iret hx hb hr hlocks hK hP hD hS () [0, 1, 2, 3, 4, 5, 6, 7] rfl (hs_upnd rfl) dX6_worthOfCell_65 ((by rw [A_wc, if_neg c_1, if_neg c_8, A_wv, if_pos c_2, if_neg c_5]))
        · refine lv_iload_n hx hb dX6_worthOfCell_49 rfl (lv_at hl 2 rfl) ?_
          refine lv_iconst (v := 2) hx hb dX6_worthOfCell_50 hki_2 ?_
          refine lv_irem hx hb dX6_worthOfCell_51 (by decide) ?_
          refine lv_iconst (v := 1) hx hb dX6_worthOfCell_52 hki_1 ?_
          refine lv_icmp_ne (tgt := 63) hx hb dX6_worthOfCell_53 rfl (fun c_9 => ?_) (fun c_9 => ?_)
          · refine lv_iload hx hb dX6_worthOfCell_63 (lv_at hl 0 rfl) ?_
            exact hs_iret hx hb hr hlocks hK hP hD hS () [0, 1, 2, 3, 4, 5, 6, 7] rfl (hs_upnd rfl) dX6_worthOfCell_65 ((by rw [A_wc, if_neg c_1, if_pos c_8, if_neg c_9, A_wv, if_pos c_2, if_neg c_5]))
          · refine lv_iload hx hb dX6_worthOfCell_56 (lv_at hl 0 rfl) ?_
            refine lv_iconst (v := 1) hx hb dX6_worthOfCell_58 hki_1 ?_
            refine lv_iadd hx hb dX6_worthOfCell_59 ?_
            refine lv_goto (tgt := 65) hx hb dX6_worthOfCell_60 rfl ?_
            exact hs_iret hx hb hr hlocks hK hP hD hS () [0, 1, 2, 3, 4, 5, 6, 7] rfl (hs_upnd rfl) dX6_worthOfCell_65 ((by rw [A_wc, if_neg c_1, if_pos c_8, if_pos c_9, A_wv, if_pos c_2, if_neg c_5]))
  · refine lv_iload_n hx hb dX6_worthOfCell_21 rfl (lv_at hl 1 rfl) ?_
    refine lv_iconst (v := 2) hx hb dX6_worthOfCell_22 hki_2 ?_
    refine lv_idiv hx hb dX6_worthOfCell_23 (by decide) ?_
    exact hs_iret hx hb hr hlocks hK hP hD hS () [0, 1, 2, 3, 4, 5, 6, 7] rfl (hs_upnd rfl) dX6_worthOfCell_24 ((by rw [A_wc, if_pos c_1]))

set_option maxHeartbeats 4000000 in
set_option maxRecDepth 100000 in
theorem gf_lead (l : Launch) (D : va_G) (k : Nat → ClassId) (sz : Nat) (t : Nat) (t_a : Nat → Nat) (t_N : Nat → Nat) (t_J : Nat → Int32) (t_F : Nat → Nat → Int32) (j : Nat) (cells : Int32) (hN0 : thN t_N) (hj : j < 4) : MI l yX6_lead wsX6_lead ({ frames := 1, cells := 0, slots := 0, locals := 25 }) D k [.ref t, .int (nI j), .int cells] [oqT t t_a t_N t_J, oqF0 k t_a t_F, oqF1 k t_a t_F, oqF2 k t_a t_F, oqF3 k t_a t_F, oqF4 k t_a t_F, oqF5 k t_a t_F, oqF6 k t_a t_F] sz (fun (r : Int32) (u : Unit) => r = A_ld (A_fc t_F j) cells (t_N 0)) (fun (u : Unit) => [oqT t t_a t_N t_J, oqF0 k t_a t_F, oqF1 k t_a t_F, oqF2 k t_a t_F, oqF3 k t_a t_F, oqF4 k t_a t_F, oqF5 k t_a t_F, oqF6 k t_a t_F]) := by
  refine Met.ofW (cc := cX6_lead) (maxL := 6) (ret := (some .int)) hpn_X6 rfl ?_
  intro p e s m args below meth c s₁ B hml hv
  obtain ⟨rfl, hsz, hP, hK, hD0, hN⟩ := hv
  have hx := B.exec
  have hb := B.bytes
  have hr := B.returns
  have hlocks := B.notSynchronized
  have hts := atoms_spec (ws := wsX6_lead) B.pre
  have hown := findClass_of_methodNamed B.named
  have hown : s.vm.findClass RX6 = some m.cls := hown
  have hiX6 : ∀ w ∈ u_ws RX6 TX6 15, w ∈ wsX6_lead := fun w9 hw9 => List.mem_cons_of_mem _ (igX6 w9 hw9)
  have fl36 := hts (.fieldLink RX6 36 "HalfScales$Thing" "cellCount" "I") (List.mem_cons_of_mem _ (hs_inG 1 51 rfl rfl))
  obtain ⟨I0, I1, ⟨I2, I2b⟩, I3, I4⟩ := hN0
  subst hsz
  have hD := hD0.self (sz := s.heap.size)
  generalize hAe : va_A [oqT t t_a t_N t_J, oqF0 k t_a t_F, oqF1 k t_a t_F, oqF2 k t_a t_F, oqF3 k t_a t_F, oqF4 k t_a t_F, oqF5 k t_a t_F, oqF6 k t_a t_F] s.heap.size = A at hD ⊢
  have hA : ∀ q : Nat, s.heap.size ≤ q → A q := fun q h => by rw [← hAe]; exact Or.inr h
  have hS : va_S A s.heap s.heap [] := va_S.rf
  have hl := lv_entry ([.ref t, .int (nI j), .int cells]) (n := 6) (Nat.le_of_ble_eq_true rfl)
  rw [lg_entry_eq]
  generalize (lg_sl ([.ref t, .int (nI j), .int cells]) ++ List.replicate (6 - (lg_sl ([.ref t, .int (nI j), .int cells])).length) Slot.unset).toArray = ls at hl ⊢
  have hl : lv_has ls 6 [(0, .ref t), (1, .int (nI j)), (2, .int cells)] := hl
  have hP : va_P D vwCl [oqT t t_a t_N t_J, oqF0 k t_a t_F, oqF1 k t_a t_F, oqF2 k t_a t_F, oqF3 k t_a t_F, oqF4 k t_a t_F, oqF5 k t_a t_F, oqF6 k t_a t_F] s.heap := hP
  refine lv_iconst (v := 0) hx hb dX6_lead_0 hki_0 ?_
  refine lv_istore_n (lv' := [(3, .int 0), (0, .ref t), (1, .int (nI j)), (2, .int cells)]) hx hb dX6_lead_1 rfl hl (Nat.le_of_ble_eq_true rfl) rfl (fun ls hl => ?_)
  refine lv_iconst (v := 0) hx hb dX6_lead_2 hki_0 ?_
  refine lv_istore (lv' := [(4, .int 0), (3, .int 0), (0, .ref t), (1, .int (nI j)), (2, .int cells)]) hx hb dX6_lead_3 hl (Nat.le_of_ble_eq_true rfl) rfl (fun ls hl => ?_)
  refine hs_while (σ := Int32 × Nat) (fun x => x.2 ≤ t_N 0 ∧ x.1 = A_ld (A_fc t_F j) cells x.2) (fun x => t_N 0 - x.2) (fun x => [oqT t t_a t_N t_J, oqF0 k t_a t_F, oqF1 k t_a t_F, oqF2 k t_a t_F, oqF3 k t_a t_F, oqF4 k t_a t_F, oqF5 k t_a t_F, oqF6 k t_a t_F]) (fun x => [(4, .int (nI (x.2))), (3, .int (x.1)), (0, .ref t), (1, .int (nI j)), (2, .int cells)]) ?_ (0, 0) ?_ hP hD hS hl
  · intro x hI ih5 H locs ls hP hD hS hl
    obtain ⟨more, i⟩ := x
    try dsimp only at hI
    have hP : va_P D vwCl [oqT t t_a t_N t_J, oqF0 k t_a t_F, oqF1 k t_a t_F, oqF2 k t_a t_F, oqF3 k t_a t_F, oqF4 k t_a t_F, oqF5 k t_a t_F, oqF6 k t_a t_F] H := hP
    have hD : va_D A [oqT t t_a t_N t_J, oqF0 k t_a t_F, oqF1 k t_a t_F, oqF2 k t_a t_F, oqF3 k t_a t_F, oqF4 k t_a t_F, oqF5 k t_a t_F, oqF6 k t_a t_F] := hD
    have hl : lv_has ls 6 [(4, .int (nI i)), (3, .int more), (0, .ref t), (1, .int (nI j)), (2, .int cells)] := hl
    refine lv_iload hx hb dX6_lead_5 (lv_at hl 0 rfl) ?_
    refine lv_aload_n hx hb dX6_lead_7 rfl (lv_at hl 2 rfl) ?_
    refine va_get (D := D) (ci := 5) (v := .int (nI (t_N 0))) (C := RX6) (T := TX6) (N := 15) hx hb hts hiX6 hown hK hP 0 rfl rfl 7 (Nat.le_of_ble_eq_true rfl) fl36 (fun _ h9 => h9) rfl dX6_lead_8 ?_
    refine lv_icmp_ge (tgt := 50) hx hb dX6_lead_11 rfl (fun c_1 => ?_) (fun c_1 => ?_)
    · have nc_1 : (t_N 0) ≤ i := (nI_leI (a := (t_N 0)) (b := i) (by omega) (by omega)).mp c_1
      refine lv_iload_n hx hb dX6_lead_50 rfl (lv_at hl 1 rfl) ?_
      exact hs_iret hx hb hr hlocks hK hP hD hS () [0, 1, 2, 3, 4, 5, 6, 7] rfl (hs_upnd rfl) dX6_lead_51 (by rw [hI.2, show i = t_N 0 by omega])
    · have nc_1 : ¬ (t_N 0) ≤ i := fun hq9 => c_1 ((nI_leI (a := (t_N 0)) (b := i) (by omega) (by omega)).mpr hq9)
      refine lv_aload_n hx hb dX6_lead_14 rfl (lv_at hl 2 rfl) ?_
      refine lv_iload_n hx hb dX6_lead_15 rfl (lv_at hl 3 rfl) ?_
      refine lv_iload hx hb dX6_lead_16 (lv_at hl 0 rfl) ?_
      refine hs_ciM (va_runV (As := [.int (nI j), .int (nI i)]) (rest := []) ⟨hx, hb, hml, hown, hts⟩ (gf_worthOfCell l D k _ t t_a t_N t_J t_F j i (by omega) (by omega)) (cwV 2 hts gX6_lead_X6_worthOfCell rfl rfl rfl ⟨rfl, hq_X6_worthOfCell⟩ ⟨Nat.le_of_ble_eq_true rfl, Nat.le_of_ble_eq_true rfl⟩) (hs_preV hK hN (hs_subP (w := [_, _, _, _, _, _, _, _]) hP [0, 1, 2, 3, 4, 5, 6, 7] rfl) (hD.sub (ws' := [_, _, _, _, _, _, _, _]) [0, 1, 2, 3, 4, 5, 6, 7] (hs_upnd rfl) rfl) (ci := 5) (q0 := 0) rfl rfl) rfl rfl hl.1 rfl (lv_room (Nat.le_of_ble_eq_true rfl)) dX6_lead_18 ⟨Nat.le_of_ble_eq_true rfl, Nat.le_of_ble_eq_true rfl⟩) hP hD hS hA [false, false, false, false, false, false, false, false] [] [_, _, _, _, _, _, _, _] rfl [0, 1, 2, 3, 4, 5, 6, 7] rfl [0, 1, 2, 3, 4, 5, 6, 7] (fun u_4 => [_, _, _, _, _, _, _, _]) (fun _ => rfl) (hs_upnd rfl) [false, false, false, false, false, false, false, false] (fun u_4 => [_, _, _, _, _, _, _, _]) (fun _ => rfl) (fun r_2 u_4 H locs hw_3 hP hD hS => ?_)
      refine hs_topi (A_wc (t_F 1 j) (t_F 0 i) i) hw_3 ?_
      refine lv_istore (lv' := [(5, .int (A_wc (t_F 1 j) (t_F 0 i) i)), (4, .int (nI i)), (3, .int more), (0, .ref t), (1, .int (nI j)), (2, .int cells)]) hx hb dX6_lead_21 hl (Nat.le_of_ble_eq_true rfl) rfl (fun ls hl => ?_)
      refine lv_iload_n hx hb dX6_lead_23 rfl (lv_at hl 2 rfl) ?_
      refine lv_iload_n hx hb dX6_lead_24 rfl (lv_at hl 5 rfl) ?_
      refine lv_iload hx hb dX6_lead_25 (lv_at hl 1 rfl) ?_
      refine lv_ishr hx hb dX6_lead_27 ?_
      refine lv_iconst (v := 1) hx hb dX6_lead_28 hki_1 ?_
      refine lv_iand hx hb dX6_lead_29 ?_
      refine lv_iconst (v := 1) hx hb dX6_lead_30 hki_1 ?_
      refine lv_icmp_ne (tgt := 39) hx hb dX6_lead_31 rfl (fun c_5 => ?_) (fun c_5 => ?_)
      · refine lv_iload hx hb dX6_lead_39 (lv_at hl 0 rfl) ?_
        refine lv_ineg hx hb dX6_lead_41 ?_
        refine lv_iadd hx hb dX6_lead_42 ?_
        refine lv_istore_n (lv' := [(3, .int (more + (-(A_wc (t_F 1 j) (t_F 0 i) i)))), (5, .int (A_wc (t_F 1 j) (t_F 0 i) i)), (4, .int (nI i)), (0, .ref t), (1, .int (nI j)), (2, .int cells)]) hx hb dX6_lead_43 rfl hl (Nat.le_of_ble_eq_true rfl) rfl (fun ls hl => ?_)
        refine lv_iinc (v := nI (i + 1)) (lv' := [(4, .int (nI (i + 1))), (3, .int (more + (-(A_wc (t_F 1 j) (t_F 0 i) i)))), (5, .int (A_wc (t_F 1 j) (t_F 0 i) i)), (0, .ref t), (1, .int (nI j)), (2, .int cells)]) hx hb dX6_lead_44 hl (k := 2) rfl (nI_add (i) 1) (Nat.le_of_ble_eq_true rfl) rfl (fun ls hl => ?_)
        refine lv_goto (tgt := 5) hx hb dX6_lead_47 rfl ?_
        exact ih5 (more + (-(A_wc (t_F 1 j) (t_F 0 i) i)), i + 1) (by (try dsimp only); exact ⟨by omega, by rw [A_ld, if_neg c_5, hI.2]; try rfl⟩) (by (try dsimp only); omega) _ _ _ hP hD hS (lv_sub hl [0, 1, 3, 4, 5] rfl)
      · refine lv_iload hx hb dX6_lead_34 (lv_at hl 0 rfl) ?_
        refine lv_goto (tgt := 42) hx hb dX6_lead_36 rfl ?_
        refine lv_iadd hx hb dX6_lead_42 ?_
        refine lv_istore_n (lv' := [(3, .int (more + (A_wc (t_F 1 j) (t_F 0 i) i))), (5, .int (A_wc (t_F 1 j) (t_F 0 i) i)), (4, .int (nI i)), (0, .ref t), (1, .int (nI j)), (2, .int cells)]) hx hb dX6_lead_43 rfl hl (Nat.le_of_ble_eq_true rfl) rfl (fun ls hl => ?_)
        refine lv_iinc (v := nI (i + 1)) (lv' := [(4, .int (nI (i + 1))), (3, .int (more + (A_wc (t_F 1 j) (t_F 0 i) i))), (5, .int (A_wc (t_F 1 j) (t_F 0 i) i)), (0, .ref t), (1, .int (nI j)), (2, .int cells)]) hx hb dX6_lead_44 hl (k := 2) rfl (nI_add (i) 1) (Nat.le_of_ble_eq_true rfl) rfl (fun ls hl => ?_)
        refine lv_goto (tgt := 5) hx hb dX6_lead_47 rfl ?_
        exact ih5 (more + (A_wc (t_F 1 j) (t_F 0 i) i), i + 1) (by (try dsimp only); exact ⟨by omega, by rw [A_ld, if_pos c_5, hI.2]; try rfl⟩) (by (try dsimp only); omega) _ _ _ hP hD hS (lv_sub hl [0, 1, 3, 4, 5] rfl)
  · (try dsimp only); exact ⟨Nat.zero_le _, rfl⟩

set_option maxHeartbeats 4000000 in
set_option maxRecDepth 100000 in
theorem gf_leftOf (l : Launch) (D : va_G) (k : Nat → ClassId) (sz : Nat) (t : Nat) (t_a : Nat → Nat) (t_N : Nat → Nat) (t_J : Nat → Int32) (i : Int32)  : MI l yX6_leftOf wsX6_leftOf ({ frames := 0, cells := 0, slots := 0, locals := 0 }) D k [.ref t, .int i] [oqT t t_a t_N t_J] sz (fun (r : Int32) (u : Unit) => r = A_lf i) (fun (u : Unit) => [oqT t t_a t_N t_J]) := by
  refine Met.ofW (cc := cX6_leftOf) (maxL := 2) (ret := (some .int)) hpn_X6 rfl ?_
  intro p e s m args below meth c s₁ B hml hv
  obtain ⟨rfl, hsz, hP, hK, hD0, hN⟩ := hv
  have hx := B.exec
  have hb := B.bytes
  have hr := B.returns
  have hlocks := B.notSynchronized
  have hts := atoms_spec (ws := wsX6_leftOf) B.pre
  have hown := findClass_of_methodNamed B.named
  have hown : s.vm.findClass RX6 = some m.cls := hown
  subst hsz
  have hD := hD0.self (sz := s.heap.size)
  generalize hAe : va_A [oqT t t_a t_N t_J] s.heap.size = A at hD ⊢
  have hA : ∀ q : Nat, s.heap.size ≤ q → A q := fun q h => by rw [← hAe]; exact Or.inr h
  have hS : va_S A s.heap s.heap [] := va_S.rf
  have hl := lv_entry ([.ref t, .int i]) (n := 2) (Nat.le_of_ble_eq_true rfl)
  rw [lg_entry_eq]
  generalize (lg_sl ([.ref t, .int i]) ++ List.replicate (2 - (lg_sl ([.ref t, .int i])).length) Slot.unset).toArray = ls at hl ⊢
  have hl : lv_has ls 2 [(0, .ref t), (1, .int i)] := hl
  have hP : va_P D vwCl [oqT t t_a t_N t_J] s.heap := hP
  refine lv_iconst (v := 1) hx hb dX6_leftOf_0 hki_1 ?_
  refine lv_iload_n hx hb dX6_leftOf_1 rfl (lv_at hl 1 rfl) ?_
  refine lv_ishl hx hb dX6_leftOf_2 ?_
  refine lv_iconst (v := 1) hx hb dX6_leftOf_3 hki_1 ?_
  refine lv_isub hx hb dX6_leftOf_4 ?_
  exact hs_iret hx hb hr hlocks hK hP hD hS () [0] rfl (hs_upnd rfl) dX6_leftOf_5 (rfl)

set_option maxHeartbeats 4000000 in
set_option maxRecDepth 100000 in
theorem gf_verdict (l : Launch) (D : va_G) (k : Nat → ClassId) (sz : Nat) (t : Nat) (t_a : Nat → Nat) (t_N : Nat → Nat) (t_J : Nat → Int32) (t_F : Nat → Nat → Int32) (j : Nat) (kk : Int32) (hN0 : thN t_N) (hj : j < 4) : MI l yX6_verdict wsX6_verdict ({ frames := 2, cells := 0, slots := 0, locals := 50 }) D k [.ref t, .int (nI j), .int kk] [oqT t t_a t_N t_J, oqF0 k t_a t_F, oqF1 k t_a t_F, oqF2 k t_a t_F, oqF3 k t_a t_F, oqF4 k t_a t_F, oqF5 k t_a t_F, oqF6 k t_a t_F] sz (fun (r : Int32) (u : Unit) => r = A_vd (A_ld (A_fc t_F j) (A_lf kk) (t_N 0)) (t_J 0)) (fun (u : Unit) => [oqT t t_a t_N t_J, oqF0 k t_a t_F, oqF1 k t_a t_F, oqF2 k t_a t_F, oqF3 k t_a t_F, oqF4 k t_a t_F, oqF5 k t_a t_F, oqF6 k t_a t_F]) := by
  refine Met.ofW (cc := cX6_verdict) (maxL := 4) (ret := (some .int)) hpn_X6 rfl ?_
  intro p e s m args below meth c s₁ B hml hv
  obtain ⟨rfl, hsz, hP, hK, hD0, hN⟩ := hv
  have hx := B.exec
  have hb := B.bytes
  have hr := B.returns
  have hlocks := B.notSynchronized
  have hts := atoms_spec (ws := wsX6_verdict) B.pre
  have hown := findClass_of_methodNamed B.named
  have hown : s.vm.findClass RX6 = some m.cls := hown
  have hiX6 : ∀ w ∈ u_ws RX6 TX6 15, w ∈ wsX6_verdict := fun w9 hw9 => List.mem_cons_of_mem _ (igX6 w9 hw9)
  have fl43 := hts (.fieldLink RX6 43 "HalfScales$Thing" "slip" "I") (List.mem_cons_of_mem _ (hs_inG 1 59 rfl rfl))
  have mm94 := hts (.methodLink RX6 94 Lib.Math.abs.name) (List.mem_cons_of_mem _ (hs_inG 3 68 rfl rfl))
  have msabs := hts (.static Lib.Math.abs.name) (List.mem_cons_of_mem _ (hs_inG 3 69 rfl rfl))
  have mi := hts (.initialized "java/lang/Math") (List.mem_cons_of_mem _ (hs_inG 1 14 rfl rfl))
  have mcabs := hts (.code Lib.Math.abs.name Lib.Math.abs.code 1 (some .int)) (List.mem_cons_of_mem _ (hs_inG 3 70 rfl rfl))
  obtain ⟨I0, I1, ⟨I2, I2b⟩, I3, I4⟩ := hN0
  subst hsz
  have hD := hD0.self (sz := s.heap.size)
  generalize hAe : va_A [oqT t t_a t_N t_J, oqF0 k t_a t_F, oqF1 k t_a t_F, oqF2 k t_a t_F, oqF3 k t_a t_F, oqF4 k t_a t_F, oqF5 k t_a t_F, oqF6 k t_a t_F] s.heap.size = A at hD ⊢
  have hA : ∀ q : Nat, s.heap.size ≤ q → A q := fun q h => by rw [← hAe]; exact Or.inr h
  have hS : va_S A s.heap s.heap [] := va_S.rf
  have hl := lv_entry ([.ref t, .int (nI j), .int kk]) (n := 4) (Nat.le_of_ble_eq_true rfl)
  rw [lg_entry_eq]
  generalize (lg_sl ([.ref t, .int (nI j), .int kk]) ++ List.replicate (4 - (lg_sl ([.ref t, .int (nI j), .int kk])).length) Slot.unset).toArray = ls at hl ⊢
  have hl : lv_has ls 4 [(0, .ref t), (1, .int (nI j)), (2, .int kk)] := hl
  have hP : va_P D vwCl [oqT t t_a t_N t_J, oqF0 k t_a t_F, oqF1 k t_a t_F, oqF2 k t_a t_F, oqF3 k t_a t_F, oqF4 k t_a t_F, oqF5 k t_a t_F, oqF6 k t_a t_F] s.heap := hP
  refine lv_aload_n hx hb dX6_verdict_0 rfl (lv_at hl 0 rfl) ?_
  refine lv_iload_n hx hb dX6_verdict_1 rfl (lv_at hl 1 rfl) ?_
  refine lv_aload_n hx hb dX6_verdict_2 rfl (lv_at hl 0 rfl) ?_
  refine lv_iload_n hx hb dX6_verdict_3 rfl (lv_at hl 2 rfl) ?_
  refine hs_ciM (va_runV (As := [.int kk]) (rest := [.int (nI j), .ref t]) ⟨hx, hb, hml, hown, hts⟩ (gf_leftOf l D k _ t t_a t_N t_J kk) (cwV 1 hts gX6_verdict_X6_leftOf rfl rfl rfl ⟨rfl, hq_X6_leftOf⟩ ⟨Nat.le_of_ble_eq_true rfl, Nat.le_of_ble_eq_true rfl⟩) (hs_preV hK hN (hs_subP (w := [_]) hP [0] rfl) (hD.sub (ws' := [_]) [0] (hs_upnd rfl) rfl) (ci := 5) (q0 := 0) rfl rfl) rfl rfl hl.1 rfl (lv_room (Nat.le_of_ble_eq_true rfl)) dX6_verdict_4 ⟨Nat.le_of_ble_eq_true rfl, Nat.le_of_ble_eq_true rfl⟩) hP hD hS hA [false, true, true, true, true, true, true, true] [_, _, _, _, _, _, _] [_] rfl [0] rfl [0] (fun u_3 => [_]) (fun _ => rfl) (hs_upnd rfl) [false, true, true, true, true, true, true, true] (fun u_3 => [_, _, _, _, _, _, _, _]) (fun _ => rfl) (fun r_1 u_3 H locs hw_2 hP hD hS => ?_)
  refine hs_topi (A_lf kk) hw_2 ?_
  refine hs_ciM (va_runV (As := [.int (nI j), .int (A_lf kk)]) (rest := []) ⟨hx, hb, hml, hown, hts⟩ (gf_lead l D k _ t t_a t_N t_J t_F j (A_lf kk) (by first | assumption | exact ⟨by first | omega | (dsimp; omega), by first | omega | (dsimp; omega), ⟨by first | omega | (dsimp; omega), by first | omega | (dsimp; omega)⟩, by first | omega | (dsimp; omega), by first | omega | (dsimp; omega)⟩) (by omega)) (cwV 2 hts gX6_verdict_X6_lead rfl rfl rfl ⟨rfl, hq_X6_lead⟩ ⟨Nat.le_of_ble_eq_true rfl, Nat.le_of_ble_eq_true rfl⟩) (hs_preV hK hN (hs_subP (w := [_, _, _, _, _, _, _, _]) hP [0, 1, 2, 3, 4, 5, 6, 7] rfl) (hD.sub (ws' := [_, _, _, _, _, _, _, _]) [0, 1, 2, 3, 4, 5, 6, 7] (hs_upnd rfl) rfl) (ci := 5) (q0 := 0) rfl rfl) rfl rfl hl.1 rfl (lv_room (Nat.le_of_ble_eq_true rfl)) dX6_verdict_7 ⟨Nat.le_of_ble_eq_true rfl, Nat.le_of_ble_eq_true rfl⟩) hP hD hS hA [false, false, false, false, false, false, false, false] [] [_, _, _, _, _, _, _, _] rfl [0, 1, 2, 3, 4, 5, 6, 7] rfl [0, 1, 2, 3, 4, 5, 6, 7] (fun u_6 => [_, _, _, _, _, _, _, _]) (fun _ => rfl) (hs_upnd rfl) [false, false, false, false, false, false, false, false] (fun u_6 => [_, _, _, _, _, _, _, _]) (fun _ => rfl) (fun r_4 u_6 H locs hw_5 hP hD hS => ?_)
  refine hs_topi (A_ld (A_fc t_F j) (A_lf kk) (t_N 0)) hw_5 ?_
  refine lv_istore_n (lv' := [(3, .int (A_ld (A_fc t_F j) (A_lf kk) (t_N 0))), (0, .ref t), (1, .int (nI j)), (2, .int kk)]) hx hb dX6_verdict_10 rfl hl (Nat.le_of_ble_eq_true rfl) rfl (fun ls hl => ?_)
  refine lv_iload_n hx hb dX6_verdict_11 rfl (lv_at hl 0 rfl) ?_
  refine va_mabs hx hb (hml.trans hl.1.symm) hown mm94 msabs mi mcabs (Nat.le_of_ble_eq_true rfl) (Nat.le_of_ble_eq_true rfl) (Nat.zero_le _) (Nat.zero_le _) dX6_verdict_12 ?_
  refine lv_aload_n hx hb dX6_verdict_15 rfl (lv_at hl 1 rfl) ?_
  refine va_get (D := D) (ci := 5) (v := .int (t_J 0)) (C := RX6) (T := TX6) (N := 15) hx hb hts hiX6 hown hK hP 0 rfl rfl 9 (Nat.le_of_ble_eq_true rfl) fl43 (fun _ h9 => h9) rfl dX6_verdict_16 ?_
  refine lv_icmp_gt (tgt := 24) hx hb dX6_verdict_19 rfl (fun c_7 => ?_) (fun c_7 => ?_)
  · refine lv_iload_n hx hb dX6_verdict_24 rfl (lv_at hl 0 rfl) ?_
    refine lv_if_le (tgt := 32) hx hb dX6_verdict_25 rfl (fun c_8 => ?_) (fun c_8 => ?_)
    · refine lv_iconst (v := 2) hx hb dX6_verdict_32 hki_2 ?_
      exact hs_iret hx hb hr hlocks hK hP hD hS () [0, 1, 2, 3, 4, 5, 6, 7] rfl (hs_upnd rfl) dX6_verdict_33 ((by rw [A_vd, if_pos c_7, if_pos c_8]))
    · refine lv_iconst (v := 1) hx hb dX6_verdict_28 hki_1 ?_
      refine lv_goto (tgt := 33) hx hb dX6_verdict_29 rfl ?_
      exact hs_iret hx hb hr hlocks hK hP hD hS () [0, 1, 2, 3, 4, 5, 6, 7] rfl (hs_upnd rfl) dX6_verdict_33 ((by rw [A_vd, if_pos c_7, if_neg c_8]))
  · refine lv_iconst (v := 0) hx hb dX6_verdict_22 hki_0 ?_
    exact hs_iret hx hb hr hlocks hK hP hD hS () [0, 1, 2, 3, 4, 5, 6, 7] rfl (hs_upnd rfl) dX6_verdict_23 ((by rw [A_vd, if_neg c_7]))

set_option maxHeartbeats 4000000 in
set_option maxRecDepth 100000 in
theorem gf_justTo (l : Launch) (D : va_G) (k : Nat → ClassId) (sz : Nat) (t : Nat) (t_a : Nat → Nat) (t_N : Nat → Nat) (t_J : Nat → Int32) (t_F : Nat → Nat → Int32) (kk : Int32) (hN0 : thN t_N) : MI l yX6_justTo wsX6_justTo ({ frames := 3, cells := 0, slots := 0, locals := 73 }) D k [.ref t, .int kk] [oqT t t_a t_N t_J, oqF0 k t_a t_F, oqF1 k t_a t_F, oqF2 k t_a t_F, oqF3 k t_a t_F, oqF4 k t_a t_F, oqF5 k t_a t_F, oqF6 k t_a t_F] sz (fun (r : Int32) (u : Unit) => r = A_jt (A_vfc t_N t_J t_F kk) (t_N 1)) (fun (u : Unit) => [oqT t t_a t_N t_J, oqF0 k t_a t_F, oqF1 k t_a t_F, oqF2 k t_a t_F, oqF3 k t_a t_F, oqF4 k t_a t_F, oqF5 k t_a t_F, oqF6 k t_a t_F]) := by
  refine Met.ofW (cc := cX6_justTo) (maxL := 4) (ret := (some .int)) hpn_X6 rfl ?_
  intro p e s m args below meth c s₁ B hml hv
  obtain ⟨rfl, hsz, hP, hK, hD0, hN⟩ := hv
  have hx := B.exec
  have hb := B.bytes
  have hr := B.returns
  have hlocks := B.notSynchronized
  have hts := atoms_spec (ws := wsX6_justTo) B.pre
  have hown := findClass_of_methodNamed B.named
  have hown : s.vm.findClass RX6 = some m.cls := hown
  have hiX6 : ∀ w ∈ u_ws RX6 TX6 15, w ∈ wsX6_justTo := fun w9 hw9 => List.mem_cons_of_mem _ (igX6 w9 hw9)
  have fl40 := hts (.fieldLink RX6 40 "HalfScales$Thing" "peopleCount" "I") (List.mem_cons_of_mem _ (hs_inG 1 55 rfl rfl))
  obtain ⟨I0, I1, ⟨I2, I2b⟩, I3, I4⟩ := hN0
  subst hsz
  have hD := hD0.self (sz := s.heap.size)
  generalize hAe : va_A [oqT t t_a t_N t_J, oqF0 k t_a t_F, oqF1 k t_a t_F, oqF2 k t_a t_F, oqF3 k t_a t_F, oqF4 k t_a t_F, oqF5 k t_a t_F, oqF6 k t_a t_F] s.heap.size = A at hD ⊢
  have hA : ∀ q : Nat, s.heap.size ≤ q → A q := fun q h => by rw [← hAe]; exact Or.inr h
  have hS : va_S A s.heap s.heap [] := va_S.rf
  have hl := lv_entry ([.ref t, .int kk]) (n := 4) (Nat.le_of_ble_eq_true rfl)
  rw [lg_entry_eq]
  generalize (lg_sl ([.ref t, .int kk]) ++ List.replicate (4 - (lg_sl ([.ref t, .int kk])).length) Slot.unset).toArray = ls at hl ⊢
  have hl : lv_has ls 4 [(0, .ref t), (1, .int kk)] := hl
  have hP : va_P D vwCl [oqT t t_a t_N t_J, oqF0 k t_a t_F, oqF1 k t_a t_F, oqF2 k t_a t_F, oqF3 k t_a t_F, oqF4 k t_a t_F, oqF5 k t_a t_F, oqF6 k t_a t_F] s.heap := hP
  refine lv_iconst (v := 0) hx hb dX6_justTo_0 hki_0 ?_
  refine lv_istore_n (lv' := [(2, .int 0), (0, .ref t), (1, .int kk)]) hx hb dX6_justTo_1 rfl hl (Nat.le_of_ble_eq_true rfl) rfl (fun ls hl => ?_)
  refine lv_iconst (v := 0) hx hb dX6_justTo_2 hki_0 ?_
  refine lv_istore_n (lv' := [(3, .int 0), (2, .int 0), (0, .ref t), (1, .int kk)]) hx hb dX6_justTo_3 rfl hl (Nat.le_of_ble_eq_true rfl) rfl (fun ls hl => ?_)
  refine hs_while (σ := Int32 × Nat) (fun x => x.2 ≤ t_N 1 ∧ x.1 = A_jt (A_vfc t_N t_J t_F kk) x.2) (fun x => t_N 1 - x.2) (fun x => [oqT t t_a t_N t_J, oqF0 k t_a t_F, oqF1 k t_a t_F, oqF2 k t_a t_F, oqF3 k t_a t_F, oqF4 k t_a t_F, oqF5 k t_a t_F, oqF6 k t_a t_F]) (fun x => [(3, .int (nI (x.2))), (2, .int (x.1)), (0, .ref t), (1, .int kk)]) ?_ (0, 0) ?_ hP hD hS hl
  · intro x hI ih4 H locs ls hP hD hS hl
    obtain ⟨pe, q⟩ := x
    try dsimp only at hI
    have hP : va_P D vwCl [oqT t t_a t_N t_J, oqF0 k t_a t_F, oqF1 k t_a t_F, oqF2 k t_a t_F, oqF3 k t_a t_F, oqF4 k t_a t_F, oqF5 k t_a t_F, oqF6 k t_a t_F] H := hP
    have hD : va_D A [oqT t t_a t_N t_J, oqF0 k t_a t_F, oqF1 k t_a t_F, oqF2 k t_a t_F, oqF3 k t_a t_F, oqF4 k t_a t_F, oqF5 k t_a t_F, oqF6 k t_a t_F] := hD
    have hl : lv_has ls 4 [(3, .int (nI q)), (2, .int pe), (0, .ref t), (1, .int kk)] := hl
    refine lv_iload_n hx hb dX6_justTo_4 rfl (lv_at hl 0 rfl) ?_
    refine lv_aload_n hx hb dX6_justTo_5 rfl (lv_at hl 2 rfl) ?_
    refine va_get (D := D) (ci := 5) (v := .int (nI (t_N 1))) (C := RX6) (T := TX6) (N := 15) hx hb hts hiX6 hown hK hP 0 rfl rfl 8 (Nat.le_of_ble_eq_true rfl) fl40 (fun _ h9 => h9) rfl dX6_justTo_6 ?_
    refine lv_icmp_ge (tgt := 33) hx hb dX6_justTo_9 rfl (fun c_1 => ?_) (fun c_1 => ?_)
    · have nc_1 : (t_N 1) ≤ q := (nI_leI (a := (t_N 1)) (b := q) (by omega) (by omega)).mp c_1
      refine lv_iload_n hx hb dX6_justTo_33 rfl (lv_at hl 1 rfl) ?_
      exact hs_iret hx hb hr hlocks hK hP hD hS () [0, 1, 2, 3, 4, 5, 6, 7] rfl (hs_upnd rfl) dX6_justTo_34 (by rw [hI.2, show q = t_N 1 by omega])
    · have nc_1 : ¬ (t_N 1) ≤ q := fun hq9 => c_1 ((nI_leI (a := (t_N 1)) (b := q) (by omega) (by omega)).mpr hq9)
      refine lv_aload_n hx hb dX6_justTo_12 rfl (lv_at hl 2 rfl) ?_
      refine lv_iload_n hx hb dX6_justTo_13 rfl (lv_at hl 0 rfl) ?_
      refine lv_iload_n hx hb dX6_justTo_14 rfl (lv_at hl 3 rfl) ?_
      refine hs_ciM (va_runV (As := [.int (nI q), .int kk]) (rest := []) ⟨hx, hb, hml, hown, hts⟩ (gf_verdict l D k _ t t_a t_N t_J t_F q kk (by first | assumption | exact ⟨by first | omega | (dsimp; omega), by first | omega | (dsimp; omega), ⟨by first | omega | (dsimp; omega), by first | omega | (dsimp; omega)⟩, by first | omega | (dsimp; omega), by first | omega | (dsimp; omega)⟩) (by omega)) (cwV 2 hts gX6_justTo_X6_verdict rfl rfl rfl ⟨rfl, hq_X6_verdict⟩ ⟨Nat.le_of_ble_eq_true rfl, Nat.le_of_ble_eq_true rfl⟩) (hs_preV hK hN (hs_subP (w := [_, _, _, _, _, _, _, _]) hP [0, 1, 2, 3, 4, 5, 6, 7] rfl) (hD.sub (ws' := [_, _, _, _, _, _, _, _]) [0, 1, 2, 3, 4, 5, 6, 7] (hs_upnd rfl) rfl) (ci := 5) (q0 := 0) rfl rfl) rfl rfl hl.1 rfl (lv_room (Nat.le_of_ble_eq_true rfl)) dX6_justTo_15 ⟨Nat.le_of_ble_eq_true rfl, Nat.le_of_ble_eq_true rfl⟩) hP hD hS hA [false, false, false, false, false, false, false, false] [] [_, _, _, _, _, _, _, _] rfl [0, 1, 2, 3, 4, 5, 6, 7] rfl [0, 1, 2, 3, 4, 5, 6, 7] (fun u_4 => [_, _, _, _, _, _, _, _]) (fun _ => rfl) (hs_upnd rfl) [false, false, false, false, false, false, false, false] (fun u_4 => [_, _, _, _, _, _, _, _]) (fun _ => rfl) (fun r_2 u_4 H locs hw_3 hP hD hS => ?_)
      refine hs_topi (A_vd (A_ld (A_fc t_F q) (A_lf kk) (t_N 0)) (t_J 0)) hw_3 ?_
      refine lv_if_ne (tgt := 27) hx hb dX6_justTo_18 rfl (fun c_5 => ?_) (fun c_5 => ?_)
      · refine lv_iinc (v := nI (q + 1)) (lv' := [(3, .int (nI (q + 1))), (2, .int pe), (0, .ref t), (1, .int kk)]) hx hb dX6_justTo_27 hl (k := 0) rfl (nI_add (q) 1) (Nat.le_of_ble_eq_true rfl) rfl (fun ls hl => ?_)
        refine lv_goto (tgt := 4) hx hb dX6_justTo_30 rfl ?_
        exact ih4 (pe, q + 1) (by (try dsimp only); exact ⟨by omega, by rw [A_jt, if_neg (show ¬ A_vfc t_N t_J t_F kk q = 0 from c_5), hI.2]⟩) (by (try dsimp only); omega) _ _ _ hP hD hS (lv_sub hl [0, 1, 2, 3] rfl)
      · refine lv_iload_n hx hb dX6_justTo_21 rfl (lv_at hl 1 rfl) ?_
        refine lv_iconst (v := 1) hx hb dX6_justTo_22 hki_1 ?_
        refine lv_iload_n hx hb dX6_justTo_23 rfl (lv_at hl 0 rfl) ?_
        refine lv_ishl hx hb dX6_justTo_24 ?_
        refine lv_ior hx hb dX6_justTo_25 ?_
        refine lv_istore_n (lv' := [(2, .int (pe ||| (1 <<< ((nI q) &&& 31)))), (3, .int (nI q)), (0, .ref t), (1, .int kk)]) hx hb dX6_justTo_26 rfl hl (Nat.le_of_ble_eq_true rfl) rfl (fun ls hl => ?_)
        refine lv_iinc (v := nI (q + 1)) (lv' := [(3, .int (nI (q + 1))), (2, .int (pe ||| (1 <<< ((nI q) &&& 31)))), (0, .ref t), (1, .int kk)]) hx hb dX6_justTo_27 hl (k := 1) rfl (nI_add (q) 1) (Nat.le_of_ble_eq_true rfl) rfl (fun ls hl => ?_)
        refine lv_goto (tgt := 4) hx hb dX6_justTo_30 rfl ?_
        exact ih4 (pe ||| (1 <<< ((nI q) &&& 31)), q + 1) (by (try dsimp only); exact ⟨by omega, by rw [A_jt, if_pos (show A_vfc t_N t_J t_F kk q = 0 from c_5), hI.2]; try rfl⟩) (by (try dsimp only); omega) _ _ _ hP hD hS (lv_sub hl [0, 1, 2, 3] rfl)
  · (try dsimp only); exact ⟨Nat.zero_le _, rfl⟩
