set_option maxHeartbeats 4000000 in
set_option maxRecDepth 100000 in
theorem gr_flagc (l : Launch) (D : va_G) (k : Nat → ClassId) (sz : Nat) (v : Int32)  : MI l yX8_flag wsX8_flag ({ frames := 0, cells := 0, slots := 0, locals := 0 }) D k [.int v] [] sz (fun (r : Int32) (u : Unit) => r = (if v = 0 then 0 else 1)) (fun (u : Unit) => []) := by
  refine Met.ofW (cc := cX8_flag) (maxL := 1) (ret := (some .int)) hpn_X8 rfl ?_
  intro p e s m args below meth c s₁ B hml hv
  obtain ⟨rfl, hsz, hP, hK, hD0, hN⟩ := hv
  have hx := B.exec
  have hb := B.bytes
  have hr := B.returns
  have hlocks := B.notSynchronized
  have hts := atoms_spec (ws := wsX8_flag) B.pre
  have hown := findClass_of_methodNamed B.named
  have hown : s.vm.findClass RX8 = some m.cls := hown
  subst hsz
  have hD := hD0.self (sz := s.heap.size)
  generalize hAe : va_A [] s.heap.size = A at hD ⊢
  have hA : ∀ q : Nat, s.heap.size ≤ q → A q := fun q h => by rw [← hAe]; exact Or.inr h
  have hS : va_S A s.heap s.heap [] := va_S.rf
  have hl := lv_entry ([.int v]) (n := 1) (Nat.le_of_ble_eq_true rfl)
  rw [lg_entry_eq]
  generalize (lg_sl ([.int v]) ++ List.replicate (1 - (lg_sl ([.int v])).length) Slot.unset).toArray = ls at hl ⊢
  have hl : lv_has ls 1 [(0, .int v)] := hl
  have hP : va_P D vwCl [] s.heap := hP
  refine lv_iload_n hx hb dX8_flag_0 rfl (lv_at hl 0 rfl) ?_
  refine lv_if_eq (tgt := 8) hx hb dX8_flag_1 rfl (fun c_1 => ?_) (fun c_1 => ?_)
  · refine lv_iconst (v := 0) hx hb dX8_flag_8 hki_0 ?_
    exact hs_iret hx hb hr hlocks hK hP hD hS () [] rfl (hs_upnd rfl) dX8_flag_9 ((by rw [if_pos c_1]))
  · refine lv_iconst (v := 1) hx hb dX8_flag_4 hki_1 ?_
    refine lv_goto (tgt := 9) hx hb dX8_flag_5 rfl ?_
    exact hs_iret hx hb hr hlocks hK hP hD hS () [] rfl (hs_upnd rfl) dX8_flag_9 ((by rw [if_neg c_1]))

set_option maxHeartbeats 4000000 in
set_option maxRecDepth 100000 in
theorem gr_worthOf (l : Launch) (D : va_G) (k : Nat → ClassId) (sz : Nat) (mo : Nat) (mo_st : Nat) (mo_at : Nat) (mo_isKept : Nat) (mo_pe : Nat) (mo_hm : Nat) (mo_draft : Nat) (mo_dp : Nat) (mo_dh : Nat) (mo_toldLines : Int32) (mo_highest : Int32) (mo_tape : Nat) (mo_tl : Nat) (mo_ps : Nat) (mo_fr : Nat) (mo_sort : Int32) (mo_value : Int32) (mo_ft : Nat) (mo_wrongAt : Int32) (mo_row : Nat) (mo_orderMany : Int32) (mo_fo : Nat) (mo_lightest : Int32) (mo_heaviest : Int32) (mo_before : Nat) (mo_justSum : Int64) (mo_toldSum : Int64) (mo_allWays : Int64) (mo_lanes : Nat) (mo_sizes : Nat) (mo_cells : Nat) (mo_torn : Int32) (mo_had : Nat) (af : Nat → Int32) (j : Nat) (i : Nat) (hj : j < 4) (hi : i < 8) : MI l yX8_worthOf wsX8_worthOf ({ frames := 0, cells := 0, slots := 0, locals := 0 }) D k [.ref mo, .int (nI j), .int (nI i)] [oq7 mo mo_st mo_at mo_isKept (nI mo_pe) (nI mo_hm) mo_draft (nI mo_dp) (nI mo_dh) mo_toldLines mo_highest mo_tape (nI mo_tl) (nI mo_ps) (nI mo_fr) mo_sort mo_value (nI mo_ft) mo_wrongAt mo_row mo_orderMany (nI mo_fo) mo_lightest mo_heaviest mo_before mo_justSum mo_toldSum mo_allWays mo_lanes mo_sizes mo_cells mo_torn mo_had, oqI k mo_at 44 (af)] sz (fun (r : Int32) (u : Unit) => r = A_wm (af (9 + j)) (af (1 + i)) i) (fun (u : Unit) => [oq7 mo mo_st mo_at mo_isKept (nI mo_pe) (nI mo_hm) mo_draft (nI mo_dp) (nI mo_dh) mo_toldLines mo_highest mo_tape (nI mo_tl) (nI mo_ps) (nI mo_fr) mo_sort mo_value (nI mo_ft) mo_wrongAt mo_row mo_orderMany (nI mo_fo) mo_lightest mo_heaviest mo_before mo_justSum mo_toldSum mo_allWays mo_lanes mo_sizes mo_cells mo_torn mo_had, oqI k mo_at 44 (af)]) := by
  refine Met.ofW (cc := cX8_worthOf) (maxL := 5) (ret := (some .int)) hpn_X8 rfl ?_
  intro p e s m args below meth c s₁ B hml hv
  obtain ⟨rfl, hsz, hP, hK, hD0, hN⟩ := hv
  have hx := B.exec
  have hb := B.bytes
  have hr := B.returns
  have hlocks := B.notSynchronized
  have hts := atoms_spec (ws := wsX8_worthOf) B.pre
  have hown := findClass_of_methodNamed B.named
  have hown : s.vm.findClass RX8 = some m.cls := hown
  have hiX8 : ∀ w ∈ u_ws RX8 TX8 32, w ∈ wsX8_worthOf := fun w9 hw9 => List.mem_cons_of_mem _ (igX8 w9 hw9)
  have fl13 := hts (.fieldLink RX8 13 "HalfScalesModel" "at" "[I") (List.mem_cons_of_mem _ (hs_inG 4 81 rfl rfl))
  subst hsz
  have hD := hD0.self (sz := s.heap.size)
  generalize hAe : va_A [oq7 mo mo_st mo_at mo_isKept (nI mo_pe) (nI mo_hm) mo_draft (nI mo_dp) (nI mo_dh) mo_toldLines mo_highest mo_tape (nI mo_tl) (nI mo_ps) (nI mo_fr) mo_sort mo_value (nI mo_ft) mo_wrongAt mo_row mo_orderMany (nI mo_fo) mo_lightest mo_heaviest mo_before mo_justSum mo_toldSum mo_allWays mo_lanes mo_sizes mo_cells mo_torn mo_had, oqI k mo_at 44 (af)] s.heap.size = A at hD ⊢
  have hA : ∀ q : Nat, s.heap.size ≤ q → A q := fun q h => by rw [← hAe]; exact Or.inr h
  have hS : va_S A s.heap s.heap [] := va_S.rf
  have hl := lv_entry ([.ref mo, .int (nI j), .int (nI i)]) (n := 5) (Nat.le_of_ble_eq_true rfl)
  rw [lg_entry_eq]
  generalize (lg_sl ([.ref mo, .int (nI j), .int (nI i)]) ++ List.replicate (5 - (lg_sl ([.ref mo, .int (nI j), .int (nI i)])).length) Slot.unset).toArray = ls at hl ⊢
  have hl : lv_has ls 5 [(0, .ref mo), (1, .int (nI j)), (2, .int (nI i))] := hl
  have hP : va_P D vwCl [oq7 mo mo_st mo_at mo_isKept (nI mo_pe) (nI mo_hm) mo_draft (nI mo_dp) (nI mo_dh) mo_toldLines mo_highest mo_tape (nI mo_tl) (nI mo_ps) (nI mo_fr) mo_sort mo_value (nI mo_ft) mo_wrongAt mo_row mo_orderMany (nI mo_fo) mo_lightest mo_heaviest mo_before mo_justSum mo_toldSum mo_allWays mo_lanes mo_sizes mo_cells mo_torn mo_had, oqI k mo_at 44 (af)] s.heap := hP
  refine lv_aload_n hx hb dX8_worthOf_0 rfl (lv_at hl 0 rfl) ?_
  refine va_get (D := D) (ci := 7) (v := .ref mo_at) (C := RX8) (T := TX8) (N := 32) hx hb hts hiX8 hown hK hP 0 rfl rfl 1 (Nat.le_of_ble_eq_true rfl) fl13 (fun _ h9 => h9) rfl dX8_worthOf_1 ?_
  refine lv_iconst (v := 1) hx hb dX8_worthOf_4 hki_1 ?_
  refine lv_iload_n hx hb dX8_worthOf_5 rfl (lv_at hl 2 rfl) ?_
  refine lv_iadd hx hb dX8_worthOf_6 ?_
  refine hs_topi (nI (1 + i)) (nI_add (1) (i)) ?_
  refine va_iald hx hb hK hP 1 0 rfl rfl (vp_in_nI (show (1 + i) < 44 by omega) (by decide)) dX8_worthOf_7 ?_
  refine hs_topi (af (1 + i)) (by rw [nI_clamp (by omega)]) ?_
  refine lv_istore_n (lv' := [(3, .int (af (1 + i))), (0, .ref mo), (1, .int (nI j)), (2, .int (nI i))]) hx hb dX8_worthOf_8 rfl hl (Nat.le_of_ble_eq_true rfl) rfl (fun ls hl => ?_)
  refine lv_iload_n hx hb dX8_worthOf_9 rfl (lv_at hl 3 rfl) ?_
  refine lv_if_ne (tgt := 19) hx hb dX8_worthOf_10 rfl (fun c_1 => ?_) (fun c_1 => ?_)
  · have nc_1 : ¬ i = 0 := fun hq9 => c_1 ((nI_eq (a := i) (b := 0) (by omega) (by omega)).mpr hq9)
    refine lv_iload_n hx hb dX8_worthOf_19 rfl (lv_at hl 0 rfl) ?_
    refine lv_istore (lv' := [(4, .int (af (1 + i))), (3, .int (af (1 + i))), (0, .ref mo), (1, .int (nI j)), (2, .int (nI i))]) hx hb dX8_worthOf_20 hl (Nat.le_of_ble_eq_true rfl) rfl (fun ls hl => ?_)
    refine lv_aload_n hx hb dX8_worthOf_22 rfl (lv_at hl 2 rfl) ?_
    refine va_get (D := D) (ci := 7) (v := .ref mo_at) (C := RX8) (T := TX8) (N := 32) hx hb hts hiX8 hown hK hP 0 rfl rfl 1 (Nat.le_of_ble_eq_true rfl) fl13 (fun _ h9 => h9) rfl dX8_worthOf_23 ?_
    refine lv_bipush (v := 9) hx hb dX8_worthOf_26 hkb_9 ?_
    refine lv_iload_n hx hb dX8_worthOf_28 rfl (lv_at hl 3 rfl) ?_
    refine lv_iadd hx hb dX8_worthOf_29 ?_
    refine hs_topi (nI (9 + j)) (nI_add (9) (j)) ?_
    refine va_iald hx hb hK hP 1 0 rfl rfl (vp_in_nI (show (9 + j) < 44 by omega) (by decide)) dX8_worthOf_30 ?_
    refine hs_topi (af (9 + j)) (by rw [nI_clamp (by omega)]) ?_
    by_cases sw_2 : af (9 + j) = 1
    · refine lv_tableIn (off := 25) (tgt := 56) hx hb dX8_worthOf_31 (by rw [sw_2]; decide) (by rw [sw_2]; decide) (by rw [sw_2]; rfl) (by decide) ?_
      refine lv_iload hx hb dX8_worthOf_56 (lv_at hl 0 rfl) ?_
      exact hs_iret hx hb hr hlocks hK hP hD hS () [0, 1] rfl (hs_upnd rfl) dX8_worthOf_58 ((by rw [A_wm, if_pos sw_2, if_neg c_1]))
    by_cases sw_3 : af (9 + j) = 2
    · refine lv_tableIn (off := 28) (tgt := 59) hx hb dX8_worthOf_31 (by rw [sw_3]; decide) (by rw [sw_3]; decide) (by rw [sw_3]; rfl) (by decide) ?_
      refine lv_iload hx hb dX8_worthOf_59 (lv_at hl 0 rfl) ?_
      refine lv_iload_n hx hb dX8_worthOf_61 rfl (lv_at hl 1 rfl) ?_
      refine lv_iconst (v := 2) hx hb dX8_worthOf_62 hki_2 ?_
      refine lv_irem hx hb dX8_worthOf_63 (by decide) ?_
      refine lv_iadd hx hb dX8_worthOf_64 ?_
      exact hs_iret hx hb hr hlocks hK hP hD hS () [0, 1] rfl (hs_upnd rfl) dX8_worthOf_65 ((by rw [A_wm, if_neg (by rw [sw_3]; decide), if_pos sw_3, if_neg c_1]))
    by_cases sw_4 : af (9 + j) = 3
    · refine lv_tableIn (off := 35) (tgt := 66) hx hb dX8_worthOf_31 (by rw [sw_4]; decide) (by rw [sw_4]; decide) (by rw [sw_4]; rfl) (by decide) ?_
      refine lv_iload_n hx hb dX8_worthOf_66 rfl (lv_at hl 1 rfl) ?_
      refine lv_iconst (v := 2) hx hb dX8_worthOf_67 hki_2 ?_
      refine lv_idiv hx hb dX8_worthOf_68 (by decide) ?_
      exact hs_iret hx hb hr hlocks hK hP hD hS () [0, 1] rfl (hs_upnd rfl) dX8_worthOf_69 ((by rw [A_wm, if_neg (by rw [sw_4]; decide), if_neg (by rw [sw_4]; decide), if_pos sw_4]))
    refine lv_tableOut (tgt := 70) hx hb dX8_worthOf_31 (by have z0 := lv_neT sw_2 (a := 1) rfl; have z1 := lv_neT sw_3 (a := 2) rfl; have z2 := lv_neT sw_4 (a := 3) rfl; omega) (by decide) ?_
    refine lv_iload_n hx hb dX8_worthOf_70 rfl (lv_at hl 1 rfl) ?_
    exact hs_iret hx hb hr hlocks hK hP hD hS () [0, 1] rfl (hs_upnd rfl) dX8_worthOf_71 ((by rw [A_wm, if_neg sw_2, if_neg sw_3, if_neg sw_4]))
  · have nc_1 : i = 0 := (nI_eq (a := i) (b := 0) (by omega) (by omega)).mp c_1
    refine lv_iconst (v := 2) hx hb dX8_worthOf_13 hki_2 ?_
    refine lv_iload_n hx hb dX8_worthOf_14 rfl (lv_at hl 0 rfl) ?_
    refine lv_imul hx hb dX8_worthOf_15 ?_
    refine lv_goto (tgt := 20) hx hb dX8_worthOf_16 rfl ?_
    refine lv_istore (lv' := [(4, .int (2 * (af (1 + i)))), (3, .int (af (1 + i))), (0, .ref mo), (1, .int (nI j)), (2, .int (nI i))]) hx hb dX8_worthOf_20 hl (Nat.le_of_ble_eq_true rfl) rfl (fun ls hl => ?_)
    refine lv_aload_n hx hb dX8_worthOf_22 rfl (lv_at hl 2 rfl) ?_
    refine va_get (D := D) (ci := 7) (v := .ref mo_at) (C := RX8) (T := TX8) (N := 32) hx hb hts hiX8 hown hK hP 0 rfl rfl 1 (Nat.le_of_ble_eq_true rfl) fl13 (fun _ h9 => h9) rfl dX8_worthOf_23 ?_
    refine lv_bipush (v := 9) hx hb dX8_worthOf_26 hkb_9 ?_
    refine lv_iload_n hx hb dX8_worthOf_28 rfl (lv_at hl 3 rfl) ?_
    refine lv_iadd hx hb dX8_worthOf_29 ?_
    refine hs_topi (nI (9 + j)) (nI_add (9) (j)) ?_
    refine va_iald hx hb hK hP 1 0 rfl rfl (vp_in_nI (show (9 + j) < 44 by omega) (by decide)) dX8_worthOf_30 ?_
    refine hs_topi (af (9 + j)) (by rw [nI_clamp (by omega)]) ?_
    by_cases sw_5 : af (9 + j) = 1
    · refine lv_tableIn (off := 25) (tgt := 56) hx hb dX8_worthOf_31 (by rw [sw_5]; decide) (by rw [sw_5]; decide) (by rw [sw_5]; rfl) (by decide) ?_
      refine lv_iload hx hb dX8_worthOf_56 (lv_at hl 0 rfl) ?_
      exact hs_iret hx hb hr hlocks hK hP hD hS () [0, 1] rfl (hs_upnd rfl) dX8_worthOf_58 ((by rw [A_wm, if_pos sw_5, if_pos c_1]))
    by_cases sw_6 : af (9 + j) = 2
    · refine lv_tableIn (off := 28) (tgt := 59) hx hb dX8_worthOf_31 (by rw [sw_6]; decide) (by rw [sw_6]; decide) (by rw [sw_6]; rfl) (by decide) ?_
      refine lv_iload hx hb dX8_worthOf_59 (lv_at hl 0 rfl) ?_
      refine lv_iload_n hx hb dX8_worthOf_61 rfl (lv_at hl 1 rfl) ?_
      refine lv_iconst (v := 2) hx hb dX8_worthOf_62 hki_2 ?_
      refine lv_irem hx hb dX8_worthOf_63 (by decide) ?_
      refine lv_iadd hx hb dX8_worthOf_64 ?_
      exact hs_iret hx hb hr hlocks hK hP hD hS () [0, 1] rfl (hs_upnd rfl) dX8_worthOf_65 ((by rw [A_wm, if_neg (by rw [sw_6]; decide), if_pos sw_6, if_pos c_1]))
    by_cases sw_7 : af (9 + j) = 3
    · refine lv_tableIn (off := 35) (tgt := 66) hx hb dX8_worthOf_31 (by rw [sw_7]; decide) (by rw [sw_7]; decide) (by rw [sw_7]; rfl) (by decide) ?_
      refine lv_iload_n hx hb dX8_worthOf_66 rfl (lv_at hl 1 rfl) ?_
      refine lv_iconst (v := 2) hx hb dX8_worthOf_67 hki_2 ?_
      refine lv_idiv hx hb dX8_worthOf_68 (by decide) ?_
      exact hs_iret hx hb hr hlocks hK hP hD hS () [0, 1] rfl (hs_upnd rfl) dX8_worthOf_69 ((by rw [A_wm, if_neg (by rw [sw_7]; decide), if_neg (by rw [sw_7]; decide), if_pos sw_7]))
    refine lv_tableOut (tgt := 70) hx hb dX8_worthOf_31 (by have z0 := lv_neT sw_5 (a := 1) rfl; have z1 := lv_neT sw_6 (a := 2) rfl; have z2 := lv_neT sw_7 (a := 3) rfl; omega) (by decide) ?_
    refine lv_iload_n hx hb dX8_worthOf_70 rfl (lv_at hl 1 rfl) ?_
    exact hs_iret hx hb hr hlocks hK hP hD hS () [0, 1] rfl (hs_upnd rfl) dX8_worthOf_71 ((by rw [A_wm, if_neg sw_5, if_neg sw_6, if_neg sw_7]))

set_option maxHeartbeats 4000000 in
set_option maxRecDepth 100000 in
theorem gr_worthOfAll (l : Launch) (D : va_G) (k : Nat → ClassId) (sz : Nat) (mo : Nat) (mo_st : Nat) (mo_at : Nat) (mo_isKept : Nat) (mo_pe : Nat) (mo_hm : Nat) (mo_draft : Nat) (mo_dp : Nat) (mo_dh : Nat) (mo_toldLines : Int32) (mo_highest : Int32) (mo_tape : Nat) (mo_tl : Nat) (mo_ps : Nat) (mo_fr : Nat) (mo_sort : Int32) (mo_value : Int32) (mo_ft : Nat) (mo_wrongAt : Int32) (mo_row : Nat) (mo_orderMany : Int32) (mo_fo : Nat) (mo_lightest : Int32) (mo_heaviest : Int32) (mo_before : Nat) (mo_justSum : Int64) (mo_toldSum : Int64) (mo_allWays : Int64) (mo_lanes : Nat) (mo_sizes : Nat) (mo_cells : Nat) (mo_torn : Int32) (mo_had : Nat) (af : Nat → Int32) (c0 : Nat) (j : Nat) (sm : Int32) (e0 : af 0 = nI c0) (h0 : c0 ≤ 8) (hj : j < 4) : MI l yX8_worthOfAll wsX8_worthOfAll ({ frames := 1, cells := 0, slots := 0, locals := 24 }) D k [.ref mo, .int (nI j), .int sm] [oq7 mo mo_st mo_at mo_isKept (nI mo_pe) (nI mo_hm) mo_draft (nI mo_dp) (nI mo_dh) mo_toldLines mo_highest mo_tape (nI mo_tl) (nI mo_ps) (nI mo_fr) mo_sort mo_value (nI mo_ft) mo_wrongAt mo_row mo_orderMany (nI mo_fo) mo_lightest mo_heaviest mo_before mo_justSum mo_toldSum mo_allWays mo_lanes mo_sizes mo_cells mo_torn mo_had, oqI k mo_at 44 (af)] sz (fun (r : Int32) (u : Unit) => r = A_ws (A_fm af j) sm c0) (fun (u : Unit) => [oq7 mo mo_st mo_at mo_isKept (nI mo_pe) (nI mo_hm) mo_draft (nI mo_dp) (nI mo_dh) mo_toldLines mo_highest mo_tape (nI mo_tl) (nI mo_ps) (nI mo_fr) mo_sort mo_value (nI mo_ft) mo_wrongAt mo_row mo_orderMany (nI mo_fo) mo_lightest mo_heaviest mo_before mo_justSum mo_toldSum mo_allWays mo_lanes mo_sizes mo_cells mo_torn mo_had, oqI k mo_at 44 (af)]) := by
  refine Met.ofW (cc := cX8_worthOfAll) (maxL := 5) (ret := (some .int)) hpn_X8 rfl ?_
  intro p e s m args below meth c s₁ B hml hv
  obtain ⟨rfl, hsz, hP, hK, hD0, hN⟩ := hv
  have hx := B.exec
  have hb := B.bytes
  have hr := B.returns
  have hlocks := B.notSynchronized
  have hts := atoms_spec (ws := wsX8_worthOfAll) B.pre
  have hown := findClass_of_methodNamed B.named
  have hown : s.vm.findClass RX8 = some m.cls := hown
  have hiX8 : ∀ w ∈ u_ws RX8 TX8 32, w ∈ wsX8_worthOfAll := fun w9 hw9 => List.mem_cons_of_mem _ (igX8 w9 hw9)
  have fl13 := hts (.fieldLink RX8 13 "HalfScalesModel" "at" "[I") (List.mem_cons_of_mem _ (hs_inG 4 81 rfl rfl))
  subst hsz
  have hD := hD0.self (sz := s.heap.size)
  generalize hAe : va_A [oq7 mo mo_st mo_at mo_isKept (nI mo_pe) (nI mo_hm) mo_draft (nI mo_dp) (nI mo_dh) mo_toldLines mo_highest mo_tape (nI mo_tl) (nI mo_ps) (nI mo_fr) mo_sort mo_value (nI mo_ft) mo_wrongAt mo_row mo_orderMany (nI mo_fo) mo_lightest mo_heaviest mo_before mo_justSum mo_toldSum mo_allWays mo_lanes mo_sizes mo_cells mo_torn mo_had, oqI k mo_at 44 (af)] s.heap.size = A at hD ⊢
  have hA : ∀ q : Nat, s.heap.size ≤ q → A q := fun q h => by rw [← hAe]; exact Or.inr h
  have hS : va_S A s.heap s.heap [] := va_S.rf
  have hl := lv_entry ([.ref mo, .int (nI j), .int sm]) (n := 5) (Nat.le_of_ble_eq_true rfl)
  rw [lg_entry_eq]
  generalize (lg_sl ([.ref mo, .int (nI j), .int sm]) ++ List.replicate (5 - (lg_sl ([.ref mo, .int (nI j), .int sm])).length) Slot.unset).toArray = ls at hl ⊢
  have hl : lv_has ls 5 [(0, .ref mo), (1, .int (nI j)), (2, .int sm)] := hl
  have hP : va_P D vwCl [oq7 mo mo_st mo_at mo_isKept (nI mo_pe) (nI mo_hm) mo_draft (nI mo_dp) (nI mo_dh) mo_toldLines mo_highest mo_tape (nI mo_tl) (nI mo_ps) (nI mo_fr) mo_sort mo_value (nI mo_ft) mo_wrongAt mo_row mo_orderMany (nI mo_fo) mo_lightest mo_heaviest mo_before mo_justSum mo_toldSum mo_allWays mo_lanes mo_sizes mo_cells mo_torn mo_had, oqI k mo_at 44 (af)] s.heap := hP
  refine lv_iconst (v := 0) hx hb dX8_worthOfAll_0 hki_0 ?_
  refine lv_istore_n (lv' := [(3, .int 0), (0, .ref mo), (1, .int (nI j)), (2, .int sm)]) hx hb dX8_worthOfAll_1 rfl hl (Nat.le_of_ble_eq_true rfl) rfl (fun ls hl => ?_)
  refine lv_iconst (v := 0) hx hb dX8_worthOfAll_2 hki_0 ?_
  refine lv_istore (lv' := [(4, .int 0), (3, .int 0), (0, .ref mo), (1, .int (nI j)), (2, .int sm)]) hx hb dX8_worthOfAll_3 hl (Nat.le_of_ble_eq_true rfl) rfl (fun ls hl => ?_)
  refine hs_while (σ := Int32 × Nat) (fun x => x.2 ≤ c0 ∧ x.1 = A_ws (A_fm af j) sm x.2) (fun x => c0 - x.2) (fun x => [oq7 mo mo_st mo_at mo_isKept (nI mo_pe) (nI mo_hm) mo_draft (nI mo_dp) (nI mo_dh) mo_toldLines mo_highest mo_tape (nI mo_tl) (nI mo_ps) (nI mo_fr) mo_sort mo_value (nI mo_ft) mo_wrongAt mo_row mo_orderMany (nI mo_fo) mo_lightest mo_heaviest mo_before mo_justSum mo_toldSum mo_allWays mo_lanes mo_sizes mo_cells mo_torn mo_had, oqI k mo_at 44 (af)]) (fun x => [(4, .int (nI (x.2))), (3, .int (x.1)), (0, .ref mo), (1, .int (nI j)), (2, .int sm)]) ?_ (0, 0) ?_ hP hD hS hl
  · intro x hI ih5 H locs ls hP hD hS hl
    obtain ⟨sum, i⟩ := x
    try dsimp only at hI
    have hP : va_P D vwCl [oq7 mo mo_st mo_at mo_isKept (nI mo_pe) (nI mo_hm) mo_draft (nI mo_dp) (nI mo_dh) mo_toldLines mo_highest mo_tape (nI mo_tl) (nI mo_ps) (nI mo_fr) mo_sort mo_value (nI mo_ft) mo_wrongAt mo_row mo_orderMany (nI mo_fo) mo_lightest mo_heaviest mo_before mo_justSum mo_toldSum mo_allWays mo_lanes mo_sizes mo_cells mo_torn mo_had, oqI k mo_at 44 (af)] H := hP
    have hD : va_D A [oq7 mo mo_st mo_at mo_isKept (nI mo_pe) (nI mo_hm) mo_draft (nI mo_dp) (nI mo_dh) mo_toldLines mo_highest mo_tape (nI mo_tl) (nI mo_ps) (nI mo_fr) mo_sort mo_value (nI mo_ft) mo_wrongAt mo_row mo_orderMany (nI mo_fo) mo_lightest mo_heaviest mo_before mo_justSum mo_toldSum mo_allWays mo_lanes mo_sizes mo_cells mo_torn mo_had, oqI k mo_at 44 (af)] := hD
    have hl : lv_has ls 5 [(4, .int (nI i)), (3, .int sum), (0, .ref mo), (1, .int (nI j)), (2, .int sm)] := hl
    refine lv_iload hx hb dX8_worthOfAll_5 (lv_at hl 0 rfl) ?_
    refine lv_aload_n hx hb dX8_worthOfAll_7 rfl (lv_at hl 2 rfl) ?_
    refine va_get (D := D) (ci := 7) (v := .ref mo_at) (C := RX8) (T := TX8) (N := 32) hx hb hts hiX8 hown hK hP 0 rfl rfl 1 (Nat.le_of_ble_eq_true rfl) fl13 (fun _ h9 => h9) rfl dX8_worthOfAll_8 ?_
    refine lv_iconst (v := 0) hx hb dX8_worthOfAll_11 hki_0 ?_
    refine va_iald hx hb hK hP 1 0 rfl rfl (hs_in (by decide)) dX8_worthOfAll_12 ?_
    refine hs_topi (nI c0) e0 ?_
    refine lv_icmp_ge (tgt := 46) hx hb dX8_worthOfAll_13 rfl (fun c_1 => ?_) (fun c_1 => ?_)
    · have nc_1 : c0 ≤ i := (nI_leI (a := c0) (b := i) (by omega) (by omega)).mp c_1
      refine lv_iload_n hx hb dX8_worthOfAll_46 rfl (lv_at hl 1 rfl) ?_
      exact hs_iret hx hb hr hlocks hK hP hD hS () [0, 1] rfl (hs_upnd rfl) dX8_worthOfAll_47 (by rw [hI.2, show i = c0 by omega])
    · have nc_1 : ¬ c0 ≤ i := fun hq9 => c_1 ((nI_leI (a := c0) (b := i) (by omega) (by omega)).mpr hq9)
      refine lv_iload_n hx hb dX8_worthOfAll_16 rfl (lv_at hl 1 rfl) ?_
      refine lv_iload_n hx hb dX8_worthOfAll_17 rfl (lv_at hl 4 rfl) ?_
      refine lv_iload hx hb dX8_worthOfAll_18 (lv_at hl 0 rfl) ?_
      refine lv_ishr hx hb dX8_worthOfAll_20 ?_
      refine lv_iconst (v := 1) hx hb dX8_worthOfAll_21 hki_1 ?_
      refine lv_iand hx hb dX8_worthOfAll_22 ?_
      refine lv_iconst (v := 1) hx hb dX8_worthOfAll_23 hki_1 ?_
      refine lv_icmp_ne (tgt := 37) hx hb dX8_worthOfAll_24 rfl (fun c_2 => ?_) (fun c_2 => ?_)
      · refine lv_iconst (v := 0) hx hb dX8_worthOfAll_37 hki_0 ?_
        refine lv_iadd hx hb dX8_worthOfAll_38 ?_
        refine lv_istore_n (lv' := [(3, .int (sum + 0)), (4, .int (nI i)), (0, .ref mo), (1, .int (nI j)), (2, .int sm)]) hx hb dX8_worthOfAll_39 rfl hl (Nat.le_of_ble_eq_true rfl) rfl (fun ls hl => ?_)
        refine lv_iinc (v := nI (i + 1)) (lv' := [(4, .int (nI (i + 1))), (3, .int (sum + 0)), (0, .ref mo), (1, .int (nI j)), (2, .int sm)]) hx hb dX8_worthOfAll_40 hl (k := 1) rfl (nI_add (i) 1) (Nat.le_of_ble_eq_true rfl) rfl (fun ls hl => ?_)
        refine lv_goto (tgt := 5) hx hb dX8_worthOfAll_43 rfl ?_
        exact ih5 (sum + 0, i + 1) (by (try dsimp only); exact ⟨by omega, by rw [A_ws, if_neg c_2, hI.2, Int32.add_zero]; try rfl⟩) (by (try dsimp only); omega) _ _ _ hP hD hS (lv_sub hl [0, 1, 2, 3, 4] rfl)
      · refine lv_aload_n hx hb dX8_worthOfAll_27 rfl (lv_at hl 2 rfl) ?_
        refine lv_iload_n hx hb dX8_worthOfAll_28 rfl (lv_at hl 3 rfl) ?_
        refine lv_iload hx hb dX8_worthOfAll_29 (lv_at hl 0 rfl) ?_
        refine hs_ciM (va_runV (As := [.int (nI j), .int (nI i)]) (rest := [.int sum]) ⟨hx, hb, hml, hown, hts⟩ (gr_worthOf l D k _ mo mo_st mo_at mo_isKept mo_pe mo_hm mo_draft mo_dp mo_dh mo_toldLines mo_highest mo_tape mo_tl mo_ps mo_fr mo_sort mo_value mo_ft mo_wrongAt mo_row mo_orderMany mo_fo mo_lightest mo_heaviest mo_before mo_justSum mo_toldSum mo_allWays mo_lanes mo_sizes mo_cells mo_torn mo_had af j i (by omega) (by omega)) (cwV 2 hts gX8_worthOfAll_X8_worthOf rfl rfl rfl ⟨rfl, hq_X8_worthOf⟩ ⟨Nat.le_of_ble_eq_true rfl, Nat.le_of_ble_eq_true rfl⟩) (hs_preV hK hN (hs_subP (w := [_, _]) hP [0, 1] rfl) (hD.sub (ws' := [_, _]) [0, 1] (hs_upnd rfl) rfl) (ci := 7) (q0 := 0) rfl rfl) rfl rfl hl.1 rfl (lv_room (Nat.le_of_ble_eq_true rfl)) dX8_worthOfAll_31 ⟨Nat.le_of_ble_eq_true rfl, Nat.le_of_ble_eq_true rfl⟩) hP hD hS hA [false, false] [] [_, _] rfl [0, 1] rfl [0, 1] (fun u_5 => [_, _]) (fun _ => rfl) (hs_upnd rfl) [false, false] (fun u_5 => [_, _]) (fun _ => rfl) (fun r_3 u_5 H locs hw_4 hP hD hS => ?_)
        refine hs_topi (A_wm (af (9 + j)) (af (1 + i)) i) hw_4 ?_
        refine lv_goto (tgt := 38) hx hb dX8_worthOfAll_34 rfl ?_
        refine lv_iadd hx hb dX8_worthOfAll_38 ?_
        refine lv_istore_n (lv' := [(3, .int (sum + (A_wm (af (9 + j)) (af (1 + i)) i))), (4, .int (nI i)), (0, .ref mo), (1, .int (nI j)), (2, .int sm)]) hx hb dX8_worthOfAll_39 rfl hl (Nat.le_of_ble_eq_true rfl) rfl (fun ls hl => ?_)
        refine lv_iinc (v := nI (i + 1)) (lv' := [(4, .int (nI (i + 1))), (3, .int (sum + (A_wm (af (9 + j)) (af (1 + i)) i))), (0, .ref mo), (1, .int (nI j)), (2, .int sm)]) hx hb dX8_worthOfAll_40 hl (k := 1) rfl (nI_add (i) 1) (Nat.le_of_ble_eq_true rfl) rfl (fun ls hl => ?_)
        refine lv_goto (tgt := 5) hx hb dX8_worthOfAll_43 rfl ?_
        exact ih5 (sum + (A_wm (af (9 + j)) (af (1 + i)) i), i + 1) (by (try dsimp only); exact ⟨by omega, by rw [A_ws, if_pos c_2, hI.2]; try rfl⟩) (by (try dsimp only); omega) _ _ _ hP hD hS (lv_sub hl [0, 1, 2, 3, 4] rfl)
  · (try dsimp only); exact ⟨Nat.zero_le _, rfl⟩

set_option maxHeartbeats 4000000 in
set_option maxRecDepth 100000 in
theorem gr_moreLeft (l : Launch) (D : va_G) (k : Nat → ClassId) (sz : Nat) (mo : Nat) (mo_st : Nat) (mo_at : Nat) (mo_isKept : Nat) (mo_pe : Nat) (mo_hm : Nat) (mo_draft : Nat) (mo_dp : Nat) (mo_dh : Nat) (mo_toldLines : Int32) (mo_highest : Int32) (mo_tape : Nat) (mo_tl : Nat) (mo_ps : Nat) (mo_fr : Nat) (mo_sort : Int32) (mo_value : Int32) (mo_ft : Nat) (mo_wrongAt : Int32) (mo_row : Nat) (mo_orderMany : Int32) (mo_fo : Nat) (mo_lightest : Int32) (mo_heaviest : Int32) (mo_before : Nat) (mo_justSum : Int64) (mo_toldSum : Int64) (mo_allWays : Int64) (mo_lanes : Nat) (mo_sizes : Nat) (mo_cells : Nat) (mo_torn : Int32) (mo_had : Nat) (af : Nat → Int32) (c0 : Nat) (j : Nat) (sm : Int32) (e0 : af 0 = nI c0) (h0 : c0 ≤ 8) (hj : j < 4) : MI l yX8_moreLeft wsX8_moreLeft ({ frames := 2, cells := 0, slots := 0, locals := 48 }) D k [.ref mo, .int (nI j), .int sm] [oq7 mo mo_st mo_at mo_isKept (nI mo_pe) (nI mo_hm) mo_draft (nI mo_dp) (nI mo_dh) mo_toldLines mo_highest mo_tape (nI mo_tl) (nI mo_ps) (nI mo_fr) mo_sort mo_value (nI mo_ft) mo_wrongAt mo_row mo_orderMany (nI mo_fo) mo_lightest mo_heaviest mo_before mo_justSum mo_toldSum mo_allWays mo_lanes mo_sizes mo_cells mo_torn mo_had, oqI k mo_at 44 (af)] sz (fun (r : Int32) (u : Unit) => r = A_ml (A_fm af j) sm c0) (fun (u : Unit) => [oq7 mo mo_st mo_at mo_isKept (nI mo_pe) (nI mo_hm) mo_draft (nI mo_dp) (nI mo_dh) mo_toldLines mo_highest mo_tape (nI mo_tl) (nI mo_ps) (nI mo_fr) mo_sort mo_value (nI mo_ft) mo_wrongAt mo_row mo_orderMany (nI mo_fo) mo_lightest mo_heaviest mo_before mo_justSum mo_toldSum mo_allWays mo_lanes mo_sizes mo_cells mo_torn mo_had, oqI k mo_at 44 (af)]) := by
  refine Met.ofW (cc := cX8_moreLeft) (maxL := 3) (ret := (some .int)) hpn_X8 rfl ?_
  intro p e s m args below meth c s₁ B hml hv
  obtain ⟨rfl, hsz, hP, hK, hD0, hN⟩ := hv
  have hx := B.exec
  have hb := B.bytes
  have hr := B.returns
  have hlocks := B.notSynchronized
  have hts := atoms_spec (ws := wsX8_moreLeft) B.pre
  have hown := findClass_of_methodNamed B.named
  have hown : s.vm.findClass RX8 = some m.cls := hown
  subst hsz
  have hD := hD0.self (sz := s.heap.size)
  generalize hAe : va_A [oq7 mo mo_st mo_at mo_isKept (nI mo_pe) (nI mo_hm) mo_draft (nI mo_dp) (nI mo_dh) mo_toldLines mo_highest mo_tape (nI mo_tl) (nI mo_ps) (nI mo_fr) mo_sort mo_value (nI mo_ft) mo_wrongAt mo_row mo_orderMany (nI mo_fo) mo_lightest mo_heaviest mo_before mo_justSum mo_toldSum mo_allWays mo_lanes mo_sizes mo_cells mo_torn mo_had, oqI k mo_at 44 (af)] s.heap.size = A at hD ⊢
  have hA : ∀ q : Nat, s.heap.size ≤ q → A q := fun q h => by rw [← hAe]; exact Or.inr h
  have hS : va_S A s.heap s.heap [] := va_S.rf
  have hl := lv_entry ([.ref mo, .int (nI j), .int sm]) (n := 3) (Nat.le_of_ble_eq_true rfl)
  rw [lg_entry_eq]
  generalize (lg_sl ([.ref mo, .int (nI j), .int sm]) ++ List.replicate (3 - (lg_sl ([.ref mo, .int (nI j), .int sm])).length) Slot.unset).toArray = ls at hl ⊢
  have hl : lv_has ls 3 [(0, .ref mo), (1, .int (nI j)), (2, .int sm)] := hl
  have hP : va_P D vwCl [oq7 mo mo_st mo_at mo_isKept (nI mo_pe) (nI mo_hm) mo_draft (nI mo_dp) (nI mo_dh) mo_toldLines mo_highest mo_tape (nI mo_tl) (nI mo_ps) (nI mo_fr) mo_sort mo_value (nI mo_ft) mo_wrongAt mo_row mo_orderMany (nI mo_fo) mo_lightest mo_heaviest mo_before mo_justSum mo_toldSum mo_allWays mo_lanes mo_sizes mo_cells mo_torn mo_had, oqI k mo_at 44 (af)] s.heap := hP
  refine lv_aload_n hx hb dX8_moreLeft_0 rfl (lv_at hl 0 rfl) ?_
  refine lv_iload_n hx hb dX8_moreLeft_1 rfl (lv_at hl 1 rfl) ?_
  refine lv_iload_n hx hb dX8_moreLeft_2 rfl (lv_at hl 2 rfl) ?_
  refine hs_ciM (va_runV (As := [.int (nI j), .int sm]) (rest := []) ⟨hx, hb, hml, hown, hts⟩ (gr_worthOfAll l D k _ mo mo_st mo_at mo_isKept mo_pe mo_hm mo_draft mo_dp mo_dh mo_toldLines mo_highest mo_tape mo_tl mo_ps mo_fr mo_sort mo_value mo_ft mo_wrongAt mo_row mo_orderMany mo_fo mo_lightest mo_heaviest mo_before mo_justSum mo_toldSum mo_allWays mo_lanes mo_sizes mo_cells mo_torn mo_had af c0 j sm (by first | exact e0a | exact e0) (by omega) (by omega)) (cwV 2 hts gX8_moreLeft_X8_worthOfAll rfl rfl rfl ⟨rfl, hq_X8_worthOfAll⟩ ⟨Nat.le_of_ble_eq_true rfl, Nat.le_of_ble_eq_true rfl⟩) (hs_preV hK hN (hs_subP (w := [_, _]) hP [0, 1] rfl) (hD.sub (ws' := [_, _]) [0, 1] (hs_upnd rfl) rfl) (ci := 7) (q0 := 0) rfl rfl) rfl rfl hl.1 rfl (lv_room (Nat.le_of_ble_eq_true rfl)) dX8_moreLeft_3 ⟨Nat.le_of_ble_eq_true rfl, Nat.le_of_ble_eq_true rfl⟩) hP hD hS hA [false, false] [] [_, _] rfl [0, 1] rfl [0, 1] (fun u_3 => [_, _]) (fun _ => rfl) (hs_upnd rfl) [false, false] (fun u_3 => [_, _]) (fun _ => rfl) (fun r_1 u_3 H locs hw_2 hP hD hS => ?_)
  refine hs_topi (A_ws (A_fm af j) sm c0) hw_2 ?_
  refine lv_aload_n hx hb dX8_moreLeft_6 rfl (lv_at hl 0 rfl) ?_
  refine lv_iload_n hx hb dX8_moreLeft_7 rfl (lv_at hl 1 rfl) ?_
  refine lv_aload_n hx hb dX8_moreLeft_8 rfl (lv_at hl 0 rfl) ?_
  refine hs_ciM (va_runV (As := []) (rest := [.int (nI j), .ref mo, .int (A_ws (A_fm af j) sm c0)]) ⟨hx, hb, hml, hown, hts⟩ (gm_every l D k _ mo mo_st mo_at mo_isKept mo_pe mo_hm mo_draft mo_dp mo_dh mo_toldLines mo_highest mo_tape mo_tl mo_ps mo_fr mo_sort mo_value mo_ft mo_wrongAt mo_row mo_orderMany mo_fo mo_lightest mo_heaviest mo_before mo_justSum mo_toldSum mo_allWays mo_lanes mo_sizes mo_cells mo_torn mo_had af c0 (by first | exact e0a | exact e0) (by omega)) (cwV 0 hts gX8_moreLeft_X8_every rfl rfl rfl ⟨rfl, hq_X8_every⟩ ⟨Nat.le_of_ble_eq_true rfl, Nat.le_of_ble_eq_true rfl⟩) (hs_preV hK hN (hs_subP (w := [_, _]) hP [0, 1] rfl) (hD.sub (ws' := [_, _]) [0, 1] (hs_upnd rfl) rfl) (ci := 7) (q0 := 0) rfl rfl) rfl rfl hl.1 rfl (lv_room (Nat.le_of_ble_eq_true rfl)) dX8_moreLeft_9 ⟨Nat.le_of_ble_eq_true rfl, Nat.le_of_ble_eq_true rfl⟩) hP hD hS hA [false, false] [] [_, _] rfl [0, 1] rfl [0, 1] (fun u_6 => [_, _]) (fun _ => rfl) (hs_upnd rfl) [false, false] (fun u_6 => [_, _]) (fun _ => rfl) (fun r_4 u_6 H locs hw_5 hP hD hS => ?_)
  refine hs_topi (nI (2 ^ c0 - 1)) hw_5 ?_
  refine lv_iload_n hx hb dX8_moreLeft_12 rfl (lv_at hl 2 rfl) ?_
  refine lv_iconst (v := (-1)) hx hb dX8_moreLeft_13 hki_m1 ?_
  refine lv_ixor hx hb dX8_moreLeft_14 ?_
  refine lv_iand hx hb dX8_moreLeft_15 ?_
  refine hs_ciM (va_runV (As := [.int (nI j), .int ((nI (2 ^ c0 - 1)) &&& (sm ^^^ (-1)))]) (rest := [.int (A_ws (A_fm af j) sm c0)]) ⟨hx, hb, hml, hown, hts⟩ (gr_worthOfAll l D k _ mo mo_st mo_at mo_isKept mo_pe mo_hm mo_draft mo_dp mo_dh mo_toldLines mo_highest mo_tape mo_tl mo_ps mo_fr mo_sort mo_value mo_ft mo_wrongAt mo_row mo_orderMany mo_fo mo_lightest mo_heaviest mo_before mo_justSum mo_toldSum mo_allWays mo_lanes mo_sizes mo_cells mo_torn mo_had af c0 j ((nI (2 ^ c0 - 1)) &&& (sm ^^^ (-1))) (by first | exact e0a | exact e0) (by omega) (by omega)) (cwV 2 hts gX8_moreLeft_X8_worthOfAll rfl rfl rfl ⟨rfl, hq_X8_worthOfAll⟩ ⟨Nat.le_of_ble_eq_true rfl, Nat.le_of_ble_eq_true rfl⟩) (hs_preV hK hN (hs_subP (w := [_, _]) hP [0, 1] rfl) (hD.sub (ws' := [_, _]) [0, 1] (hs_upnd rfl) rfl) (ci := 7) (q0 := 0) rfl rfl) rfl rfl hl.1 rfl (lv_room (Nat.le_of_ble_eq_true rfl)) dX8_moreLeft_16 ⟨Nat.le_of_ble_eq_true rfl, Nat.le_of_ble_eq_true rfl⟩) hP hD hS hA [false, false] [] [_, _] rfl [0, 1] rfl [0, 1] (fun u_9 => [_, _]) (fun _ => rfl) (hs_upnd rfl) [false, false] (fun u_9 => [_, _]) (fun _ => rfl) (fun r_7 u_9 H locs hw_8 hP hD hS => ?_)
  refine hs_topi (A_ws (A_fm af j) ((nI (2 ^ c0 - 1)) &&& (sm ^^^ (-1))) c0) hw_8 ?_
  refine lv_isub hx hb dX8_moreLeft_19 ?_
  exact hs_iret hx hb hr hlocks hK hP hD hS () [0, 1] rfl (hs_upnd rfl) dX8_moreLeft_20 (rfl)

set_option maxHeartbeats 4000000 in
set_option maxRecDepth 100000 in
theorem gr_sizeOf (l : Launch) (D : va_G) (k : Nat → ClassId) (sz : Nat) (v : Int32)  : MI l yX8_sizeOf wsX8_sizeOf ({ frames := 0, cells := 0, slots := 0, locals := 0 }) D k [.int v] [] sz (fun (r : Int32) (u : Unit) => r = A_sz v) (fun (u : Unit) => []) := by
  refine Met.ofW (cc := cX8_sizeOf) (maxL := 1) (ret := (some .int)) hpn_X8 rfl ?_
  intro p e s m args below meth c s₁ B hml hv
  obtain ⟨rfl, hsz, hP, hK, hD0, hN⟩ := hv
  have hx := B.exec
  have hb := B.bytes
  have hr := B.returns
  have hlocks := B.notSynchronized
  have hts := atoms_spec (ws := wsX8_sizeOf) B.pre
  have hown := findClass_of_methodNamed B.named
  have hown : s.vm.findClass RX8 = some m.cls := hown
  subst hsz
  have hD := hD0.self (sz := s.heap.size)
  generalize hAe : va_A [] s.heap.size = A at hD ⊢
  have hA : ∀ q : Nat, s.heap.size ≤ q → A q := fun q h => by rw [← hAe]; exact Or.inr h
  have hS : va_S A s.heap s.heap [] := va_S.rf
  have hl := lv_entry ([.int v]) (n := 1) (Nat.le_of_ble_eq_true rfl)
  rw [lg_entry_eq]
  generalize (lg_sl ([.int v]) ++ List.replicate (1 - (lg_sl ([.int v])).length) Slot.unset).toArray = ls at hl ⊢
  have hl : lv_has ls 1 [(0, .int v)] := hl
  have hP : va_P D vwCl [] s.heap := hP
  refine lv_iload_n hx hb dX8_sizeOf_0 rfl (lv_at hl 0 rfl) ?_
  refine lv_if_ge (tgt := 9) hx hb dX8_sizeOf_1 rfl (fun c_1 => ?_) (fun c_1 => ?_)
  · refine lv_iload_n hx hb dX8_sizeOf_9 rfl (lv_at hl 0 rfl) ?_
    exact hs_iret hx hb hr hlocks hK hP hD hS () [] rfl (hs_upnd rfl) dX8_sizeOf_10 ((by rw [A_sz, if_pos c_1]))
  · refine lv_iload_n hx hb dX8_sizeOf_4 rfl (lv_at hl 0 rfl) ?_
    refine lv_ineg hx hb dX8_sizeOf_5 ?_
    refine lv_goto (tgt := 10) hx hb dX8_sizeOf_6 rfl ?_
    exact hs_iret hx hb hr hlocks hK hP hD hS () [] rfl (hs_upnd rfl) dX8_sizeOf_10 ((by rw [A_sz, if_neg c_1]))

set_option maxHeartbeats 4000000 in
set_option maxRecDepth 100000 in
theorem gr_leftOf (l : Launch) (D : va_G) (k : Nat → ClassId) (sz : Nat) (v : Int32)  : MI l yX8_leftOf wsX8_leftOf ({ frames := 0, cells := 0, slots := 0, locals := 0 }) D k [.int v] [] sz (fun (r : Int32) (u : Unit) => r = A_lf v) (fun (u : Unit) => []) := by
  refine Met.ofW (cc := cX8_leftOf) (maxL := 1) (ret := (some .int)) hpn_X8 rfl ?_
  intro p e s m args below meth c s₁ B hml hv
  obtain ⟨rfl, hsz, hP, hK, hD0, hN⟩ := hv
  have hx := B.exec
  have hb := B.bytes
  have hr := B.returns
  have hlocks := B.notSynchronized
  have hts := atoms_spec (ws := wsX8_leftOf) B.pre
  have hown := findClass_of_methodNamed B.named
  have hown : s.vm.findClass RX8 = some m.cls := hown
  subst hsz
  have hD := hD0.self (sz := s.heap.size)
  generalize hAe : va_A [] s.heap.size = A at hD ⊢
  have hA : ∀ q : Nat, s.heap.size ≤ q → A q := fun q h => by rw [← hAe]; exact Or.inr h
  have hS : va_S A s.heap s.heap [] := va_S.rf
  have hl := lv_entry ([.int v]) (n := 1) (Nat.le_of_ble_eq_true rfl)
  rw [lg_entry_eq]
  generalize (lg_sl ([.int v]) ++ List.replicate (1 - (lg_sl ([.int v])).length) Slot.unset).toArray = ls at hl ⊢
  have hl : lv_has ls 1 [(0, .int v)] := hl
  have hP : va_P D vwCl [] s.heap := hP
  refine lv_iconst (v := 1) hx hb dX8_leftOf_0 hki_1 ?_
  refine lv_iload_n hx hb dX8_leftOf_1 rfl (lv_at hl 0 rfl) ?_
  refine lv_ishl hx hb dX8_leftOf_2 ?_
  refine lv_iconst (v := 1) hx hb dX8_leftOf_3 hki_1 ?_
  refine lv_isub hx hb dX8_leftOf_4 ?_
  exact hs_iret hx hb hr hlocks hK hP hD hS () [] rfl (hs_upnd rfl) dX8_leftOf_5 (rfl)

set_option maxHeartbeats 4000000 in
set_option maxRecDepth 100000 in
theorem gr_findOf (l : Launch) (D : va_G) (k : Nat → ClassId) (sz : Nat) (mo : Nat) (mo_st : Nat) (mo_at : Nat) (mo_isKept : Nat) (mo_pe : Nat) (mo_hm : Nat) (mo_draft : Nat) (mo_dp : Nat) (mo_dh : Nat) (mo_toldLines : Int32) (mo_highest : Int32) (mo_tape : Nat) (mo_tl : Nat) (mo_ps : Nat) (mo_fr : Nat) (mo_sort : Int32) (mo_value : Int32) (mo_ft : Nat) (mo_wrongAt : Int32) (mo_row : Nat) (mo_orderMany : Int32) (mo_fo : Nat) (mo_lightest : Int32) (mo_heaviest : Int32) (mo_before : Nat) (mo_justSum : Int64) (mo_toldSum : Int64) (mo_allWays : Int64) (mo_lanes : Nat) (mo_sizes : Nat) (mo_cells : Nat) (mo_torn : Int32) (mo_had : Nat) (af : Nat → Int32) (c0 : Nat) (j : Nat) (kk : Int32) (e0 : af 0 = nI c0) (h0 : c0 ≤ 8) (hj : j < 4) : MI l yX8_findOf wsX8_findOf ({ frames := 3, cells := 0, slots := 0, locals := 70 }) D k [.ref mo, .int (nI j), .int kk] [oq7 mo mo_st mo_at mo_isKept (nI mo_pe) (nI mo_hm) mo_draft (nI mo_dp) (nI mo_dh) mo_toldLines mo_highest mo_tape (nI mo_tl) (nI mo_ps) (nI mo_fr) mo_sort mo_value (nI mo_ft) mo_wrongAt mo_row mo_orderMany (nI mo_fo) mo_lightest mo_heaviest mo_before mo_justSum mo_toldSum mo_allWays mo_lanes mo_sizes mo_cells mo_torn mo_had, oqI k mo_at 44 (af)] sz (fun (r : Int32) (u : Unit) => r = A_vm (A_ml (A_fm af j) (A_lf kk) c0) (af 13)) (fun (u : Unit) => [oq7 mo mo_st mo_at mo_isKept (nI mo_pe) (nI mo_hm) mo_draft (nI mo_dp) (nI mo_dh) mo_toldLines mo_highest mo_tape (nI mo_tl) (nI mo_ps) (nI mo_fr) mo_sort mo_value (nI mo_ft) mo_wrongAt mo_row mo_orderMany (nI mo_fo) mo_lightest mo_heaviest mo_before mo_justSum mo_toldSum mo_allWays mo_lanes mo_sizes mo_cells mo_torn mo_had, oqI k mo_at 44 (af)]) := by
  refine Met.ofW (cc := cX8_findOf) (maxL := 4) (ret := (some .int)) hpn_X8 rfl ?_
  intro p e s m args below meth c s₁ B hml hv
  obtain ⟨rfl, hsz, hP, hK, hD0, hN⟩ := hv
  have hx := B.exec
  have hb := B.bytes
  have hr := B.returns
  have hlocks := B.notSynchronized
  have hts := atoms_spec (ws := wsX8_findOf) B.pre
  have hown := findClass_of_methodNamed B.named
  have hown : s.vm.findClass RX8 = some m.cls := hown
  have hiX8 : ∀ w ∈ u_ws RX8 TX8 32, w ∈ wsX8_findOf := fun w9 hw9 => List.mem_cons_of_mem _ (igX8 w9 hw9)
  have fl13 := hts (.fieldLink RX8 13 "HalfScalesModel" "at" "[I") (List.mem_cons_of_mem _ (hs_inG 4 81 rfl rfl))
  subst hsz
  have hD := hD0.self (sz := s.heap.size)
  generalize hAe : va_A [oq7 mo mo_st mo_at mo_isKept (nI mo_pe) (nI mo_hm) mo_draft (nI mo_dp) (nI mo_dh) mo_toldLines mo_highest mo_tape (nI mo_tl) (nI mo_ps) (nI mo_fr) mo_sort mo_value (nI mo_ft) mo_wrongAt mo_row mo_orderMany (nI mo_fo) mo_lightest mo_heaviest mo_before mo_justSum mo_toldSum mo_allWays mo_lanes mo_sizes mo_cells mo_torn mo_had, oqI k mo_at 44 (af)] s.heap.size = A at hD ⊢
  have hA : ∀ q : Nat, s.heap.size ≤ q → A q := fun q h => by rw [← hAe]; exact Or.inr h
  have hS : va_S A s.heap s.heap [] := va_S.rf
  have hl := lv_entry ([.ref mo, .int (nI j), .int kk]) (n := 4) (Nat.le_of_ble_eq_true rfl)
  rw [lg_entry_eq]
  generalize (lg_sl ([.ref mo, .int (nI j), .int kk]) ++ List.replicate (4 - (lg_sl ([.ref mo, .int (nI j), .int kk])).length) Slot.unset).toArray = ls at hl ⊢
  have hl : lv_has ls 4 [(0, .ref mo), (1, .int (nI j)), (2, .int kk)] := hl
  have hP : va_P D vwCl [oq7 mo mo_st mo_at mo_isKept (nI mo_pe) (nI mo_hm) mo_draft (nI mo_dp) (nI mo_dh) mo_toldLines mo_highest mo_tape (nI mo_tl) (nI mo_ps) (nI mo_fr) mo_sort mo_value (nI mo_ft) mo_wrongAt mo_row mo_orderMany (nI mo_fo) mo_lightest mo_heaviest mo_before mo_justSum mo_toldSum mo_allWays mo_lanes mo_sizes mo_cells mo_torn mo_had, oqI k mo_at 44 (af)] s.heap := hP
  refine lv_aload_n hx hb dX8_findOf_0 rfl (lv_at hl 0 rfl) ?_
  refine lv_iload_n hx hb dX8_findOf_1 rfl (lv_at hl 1 rfl) ?_
  refine lv_iload_n hx hb dX8_findOf_2 rfl (lv_at hl 2 rfl) ?_
  refine hs_pi (va_runS (As := [.int kk]) (rest := [.int (nI j), .ref mo]) ⟨hx, hb, hml, hown, hts⟩ (gr_leftOf l D k _ kk) (va_cwS 1 hts gX8_findOf_X8_leftOf rfl rfl rfl hq_X8_leftOf ⟨Nat.le_of_ble_eq_true rfl, Nat.le_of_ble_eq_true rfl⟩) (hs_preS hK hN (hs_subP (w := []) hP [] rfl) (hD.sub (ws' := []) [] rfl rfl)) rfl rfl hl.1 rfl (lv_room (Nat.le_of_ble_eq_true rfl)) dX8_findOf_3 ⟨Nat.le_of_ble_eq_true rfl, Nat.le_of_ble_eq_true rfl⟩) hP hD hS hA (fun r_1 u_3 H locs hw_2 hP hS => ?_)
  refine hs_topi (A_lf kk) hw_2 ?_
  refine hs_ciM (va_runV (As := [.int (nI j), .int (A_lf kk)]) (rest := []) ⟨hx, hb, hml, hown, hts⟩ (gr_moreLeft l D k _ mo mo_st mo_at mo_isKept mo_pe mo_hm mo_draft mo_dp mo_dh mo_toldLines mo_highest mo_tape mo_tl mo_ps mo_fr mo_sort mo_value mo_ft mo_wrongAt mo_row mo_orderMany mo_fo mo_lightest mo_heaviest mo_before mo_justSum mo_toldSum mo_allWays mo_lanes mo_sizes mo_cells mo_torn mo_had af c0 j (A_lf kk) (by first | exact e0a | exact e0) (by omega) (by omega)) (cwV 2 hts gX8_findOf_X8_moreLeft rfl rfl rfl ⟨rfl, hq_X8_moreLeft⟩ ⟨Nat.le_of_ble_eq_true rfl, Nat.le_of_ble_eq_true rfl⟩) (hs_preV hK hN (hs_subP (w := [_, _]) hP [0, 1] rfl) (hD.sub (ws' := [_, _]) [0, 1] (hs_upnd rfl) rfl) (ci := 7) (q0 := 0) rfl rfl) rfl rfl hl.1 rfl (lv_room (Nat.le_of_ble_eq_true rfl)) dX8_findOf_6 ⟨Nat.le_of_ble_eq_true rfl, Nat.le_of_ble_eq_true rfl⟩) hP hD hS hA [false, false] [] [_, _] rfl [0, 1] rfl [0, 1] (fun u_6 => [_, _]) (fun _ => rfl) (hs_upnd rfl) [false, false] (fun u_6 => [_, _]) (fun _ => rfl) (fun r_4 u_6 H locs hw_5 hP hD hS => ?_)
  refine hs_topi (A_ml (A_fm af j) (A_lf kk) c0) hw_5 ?_
  refine lv_istore_n (lv' := [(3, .int (A_ml (A_fm af j) (A_lf kk) c0)), (0, .ref mo), (1, .int (nI j)), (2, .int kk)]) hx hb dX8_findOf_9 rfl hl (Nat.le_of_ble_eq_true rfl) rfl (fun ls hl => ?_)
  refine lv_iload_n hx hb dX8_findOf_10 rfl (lv_at hl 0 rfl) ?_
  refine hs_pi (va_runS (As := [.int (A_ml (A_fm af j) (A_lf kk) c0)]) (rest := []) ⟨hx, hb, hml, hown, hts⟩ (gr_sizeOf l D k _ (A_ml (A_fm af j) (A_lf kk) c0)) (va_cwS 1 hts gX8_findOf_X8_sizeOf rfl rfl rfl hq_X8_sizeOf ⟨Nat.le_of_ble_eq_true rfl, Nat.le_of_ble_eq_true rfl⟩) (hs_preS hK hN (hs_subP (w := []) hP [] rfl) (hD.sub (ws' := []) [] rfl rfl)) rfl rfl hl.1 rfl (lv_room (Nat.le_of_ble_eq_true rfl)) dX8_findOf_11 ⟨Nat.le_of_ble_eq_true rfl, Nat.le_of_ble_eq_true rfl⟩) hP hD hS hA (fun r_7 u_9 H locs hw_8 hP hS => ?_)
  refine hs_topi (A_sz (A_ml (A_fm af j) (A_lf kk) c0)) hw_8 ?_
  refine lv_aload_n hx hb dX8_findOf_14 rfl (lv_at hl 1 rfl) ?_
  refine va_get (D := D) (ci := 7) (v := .ref mo_at) (C := RX8) (T := TX8) (N := 32) hx hb hts hiX8 hown hK hP 0 rfl rfl 1 (Nat.le_of_ble_eq_true rfl) fl13 (fun _ h9 => h9) rfl dX8_findOf_15 ?_
  refine lv_bipush (v := 13) hx hb dX8_findOf_18 hkb_13 ?_
  refine va_iald hx hb hK hP 1 0 rfl rfl (hs_in (by decide)) dX8_findOf_20 ?_
  refine hs_topi (af 13) (by rfl) ?_
  refine lv_icmp_gt (tgt := 28) hx hb dX8_findOf_21 rfl (fun c_10 => ?_) (fun c_10 => ?_)
  · refine lv_iload_n hx hb dX8_findOf_28 rfl (lv_at hl 0 rfl) ?_
    refine lv_if_le (tgt := 36) hx hb dX8_findOf_29 rfl (fun c_11 => ?_) (fun c_11 => ?_)
    · refine lv_iconst (v := 2) hx hb dX8_findOf_36 hki_2 ?_
      exact hs_iret hx hb hr hlocks hK hP hD hS () [0, 1] rfl (hs_upnd rfl) dX8_findOf_37 ((by rw [A_vm, if_pos c_10, if_pos c_11]))
    · refine lv_iconst (v := 1) hx hb dX8_findOf_32 hki_1 ?_
      refine lv_goto (tgt := 37) hx hb dX8_findOf_33 rfl ?_
      exact hs_iret hx hb hr hlocks hK hP hD hS () [0, 1] rfl (hs_upnd rfl) dX8_findOf_37 ((by rw [A_vm, if_pos c_10, if_neg c_11]))
  · refine lv_iconst (v := 0) hx hb dX8_findOf_24 hki_0 ?_
    refine lv_goto (tgt := 37) hx hb dX8_findOf_25 rfl ?_
    exact hs_iret hx hb hr hlocks hK hP hD hS () [0, 1] rfl (hs_upnd rfl) dX8_findOf_37 ((by rw [A_vm, if_neg c_10]))

set_option maxHeartbeats 4000000 in
set_option maxRecDepth 100000 in
theorem gr_justTo (l : Launch) (D : va_G) (k : Nat → ClassId) (sz : Nat) (mo : Nat) (mo_st : Nat) (mo_at : Nat) (mo_isKept : Nat) (mo_pe : Nat) (mo_hm : Nat) (mo_draft : Nat) (mo_dp : Nat) (mo_dh : Nat) (mo_toldLines : Int32) (mo_highest : Int32) (mo_tape : Nat) (mo_tl : Nat) (mo_ps : Nat) (mo_fr : Nat) (mo_sort : Int32) (mo_value : Int32) (mo_ft : Nat) (mo_wrongAt : Int32) (mo_row : Nat) (mo_orderMany : Int32) (mo_fo : Nat) (mo_lightest : Int32) (mo_heaviest : Int32) (mo_before : Nat) (mo_justSum : Int64) (mo_toldSum : Int64) (mo_allWays : Int64) (mo_lanes : Nat) (mo_sizes : Nat) (mo_cells : Nat) (mo_torn : Int32) (mo_had : Nat) (af : Nat → Int32) (c0 : Nat) (kk : Int32) (e0 : af 0 = nI c0) (h0 : c0 ≤ 8) (hpe : mo_pe ≤ 4) : MI l yX8_justTo wsX8_justTo ({ frames := 4, cells := 0, slots := 0, locals := 93 }) D k [.ref mo, .int kk] [oq7 mo mo_st mo_at mo_isKept (nI mo_pe) (nI mo_hm) mo_draft (nI mo_dp) (nI mo_dh) mo_toldLines mo_highest mo_tape (nI mo_tl) (nI mo_ps) (nI mo_fr) mo_sort mo_value (nI mo_ft) mo_wrongAt mo_row mo_orderMany (nI mo_fo) mo_lightest mo_heaviest mo_before mo_justSum mo_toldSum mo_allWays mo_lanes mo_sizes mo_cells mo_torn mo_had, oqI k mo_at 44 (af)] sz (fun (r : Int32) (u : Unit) => r = A_jt (A_vfm c0 af kk) mo_pe) (fun (u : Unit) => [oq7 mo mo_st mo_at mo_isKept (nI mo_pe) (nI mo_hm) mo_draft (nI mo_dp) (nI mo_dh) mo_toldLines mo_highest mo_tape (nI mo_tl) (nI mo_ps) (nI mo_fr) mo_sort mo_value (nI mo_ft) mo_wrongAt mo_row mo_orderMany (nI mo_fo) mo_lightest mo_heaviest mo_before mo_justSum mo_toldSum mo_allWays mo_lanes mo_sizes mo_cells mo_torn mo_had, oqI k mo_at 44 (af)]) := by
  refine Met.ofW (cc := cX8_justTo) (maxL := 4) (ret := (some .int)) hpn_X8 rfl ?_
  intro p e s m args below meth c s₁ B hml hv
  obtain ⟨rfl, hsz, hP, hK, hD0, hN⟩ := hv
  have hx := B.exec
  have hb := B.bytes
  have hr := B.returns
  have hlocks := B.notSynchronized
  have hts := atoms_spec (ws := wsX8_justTo) B.pre
  have hown := findClass_of_methodNamed B.named
  have hown : s.vm.findClass RX8 = some m.cls := hown
  have hiX8 : ∀ w ∈ u_ws RX8 TX8 32, w ∈ wsX8_justTo := fun w9 hw9 => List.mem_cons_of_mem _ (igX8 w9 hw9)
  have fl63 := hts (.fieldLink RX8 63 "HalfScalesModel" "people" "I") (List.mem_cons_of_mem _ (hs_inG 4 83 rfl rfl))
  subst hsz
  have hD := hD0.self (sz := s.heap.size)
  generalize hAe : va_A [oq7 mo mo_st mo_at mo_isKept (nI mo_pe) (nI mo_hm) mo_draft (nI mo_dp) (nI mo_dh) mo_toldLines mo_highest mo_tape (nI mo_tl) (nI mo_ps) (nI mo_fr) mo_sort mo_value (nI mo_ft) mo_wrongAt mo_row mo_orderMany (nI mo_fo) mo_lightest mo_heaviest mo_before mo_justSum mo_toldSum mo_allWays mo_lanes mo_sizes mo_cells mo_torn mo_had, oqI k mo_at 44 (af)] s.heap.size = A at hD ⊢
  have hA : ∀ q : Nat, s.heap.size ≤ q → A q := fun q h => by rw [← hAe]; exact Or.inr h
  have hS : va_S A s.heap s.heap [] := va_S.rf
  have hl := lv_entry ([.ref mo, .int kk]) (n := 4) (Nat.le_of_ble_eq_true rfl)
  rw [lg_entry_eq]
  generalize (lg_sl ([.ref mo, .int kk]) ++ List.replicate (4 - (lg_sl ([.ref mo, .int kk])).length) Slot.unset).toArray = ls at hl ⊢
  have hl : lv_has ls 4 [(0, .ref mo), (1, .int kk)] := hl
  have hP : va_P D vwCl [oq7 mo mo_st mo_at mo_isKept (nI mo_pe) (nI mo_hm) mo_draft (nI mo_dp) (nI mo_dh) mo_toldLines mo_highest mo_tape (nI mo_tl) (nI mo_ps) (nI mo_fr) mo_sort mo_value (nI mo_ft) mo_wrongAt mo_row mo_orderMany (nI mo_fo) mo_lightest mo_heaviest mo_before mo_justSum mo_toldSum mo_allWays mo_lanes mo_sizes mo_cells mo_torn mo_had, oqI k mo_at 44 (af)] s.heap := hP
  refine lv_iconst (v := 0) hx hb dX8_justTo_0 hki_0 ?_
  refine lv_istore_n (lv' := [(2, .int 0), (0, .ref mo), (1, .int kk)]) hx hb dX8_justTo_1 rfl hl (Nat.le_of_ble_eq_true rfl) rfl (fun ls hl => ?_)
  refine lv_iconst (v := 0) hx hb dX8_justTo_2 hki_0 ?_
  refine lv_istore_n (lv' := [(3, .int 0), (2, .int 0), (0, .ref mo), (1, .int kk)]) hx hb dX8_justTo_3 rfl hl (Nat.le_of_ble_eq_true rfl) rfl (fun ls hl => ?_)
  refine hs_while (σ := Int32 × Nat) (fun x => x.2 ≤ mo_pe ∧ x.1 = A_jt (A_vfm c0 af kk) x.2) (fun x => mo_pe - x.2) (fun x => [oq7 mo mo_st mo_at mo_isKept (nI mo_pe) (nI mo_hm) mo_draft (nI mo_dp) (nI mo_dh) mo_toldLines mo_highest mo_tape (nI mo_tl) (nI mo_ps) (nI mo_fr) mo_sort mo_value (nI mo_ft) mo_wrongAt mo_row mo_orderMany (nI mo_fo) mo_lightest mo_heaviest mo_before mo_justSum mo_toldSum mo_allWays mo_lanes mo_sizes mo_cells mo_torn mo_had, oqI k mo_at 44 (af)]) (fun x => [(3, .int (nI (x.2))), (2, .int (x.1)), (0, .ref mo), (1, .int kk)]) ?_ (0, 0) ?_ hP hD hS hl
  · intro x hI ih4 H locs ls hP hD hS hl
    obtain ⟨sm, q⟩ := x
    try dsimp only at hI
    have hP : va_P D vwCl [oq7 mo mo_st mo_at mo_isKept (nI mo_pe) (nI mo_hm) mo_draft (nI mo_dp) (nI mo_dh) mo_toldLines mo_highest mo_tape (nI mo_tl) (nI mo_ps) (nI mo_fr) mo_sort mo_value (nI mo_ft) mo_wrongAt mo_row mo_orderMany (nI mo_fo) mo_lightest mo_heaviest mo_before mo_justSum mo_toldSum mo_allWays mo_lanes mo_sizes mo_cells mo_torn mo_had, oqI k mo_at 44 (af)] H := hP
    have hD : va_D A [oq7 mo mo_st mo_at mo_isKept (nI mo_pe) (nI mo_hm) mo_draft (nI mo_dp) (nI mo_dh) mo_toldLines mo_highest mo_tape (nI mo_tl) (nI mo_ps) (nI mo_fr) mo_sort mo_value (nI mo_ft) mo_wrongAt mo_row mo_orderMany (nI mo_fo) mo_lightest mo_heaviest mo_before mo_justSum mo_toldSum mo_allWays mo_lanes mo_sizes mo_cells mo_torn mo_had, oqI k mo_at 44 (af)] := hD
    have hl : lv_has ls 4 [(3, .int (nI q)), (2, .int sm), (0, .ref mo), (1, .int kk)] := hl
    refine lv_iload_n hx hb dX8_justTo_4 rfl (lv_at hl 0 rfl) ?_
    refine lv_aload_n hx hb dX8_justTo_5 rfl (lv_at hl 2 rfl) ?_
    refine va_get (D := D) (ci := 7) (v := .int (nI mo_pe)) (C := RX8) (T := TX8) (N := 32) hx hb hts hiX8 hown hK hP 0 rfl rfl 3 (Nat.le_of_ble_eq_true rfl) fl63 (fun _ h9 => h9) rfl dX8_justTo_6 ?_
    refine lv_icmp_ge (tgt := 40) hx hb dX8_justTo_9 rfl (fun c_1 => ?_) (fun c_1 => ?_)
    · have nc_1 : mo_pe ≤ q := (nI_leI (a := mo_pe) (b := q) (by omega) (by omega)).mp c_1
      refine lv_iload_n hx hb dX8_justTo_40 rfl (lv_at hl 1 rfl) ?_
      exact hs_iret hx hb hr hlocks hK hP hD hS () [0, 1] rfl (hs_upnd rfl) dX8_justTo_41 (by rw [hI.2, show q = mo_pe by omega])
    · have nc_1 : ¬ mo_pe ≤ q := fun hq9 => c_1 ((nI_leI (a := mo_pe) (b := q) (by omega) (by omega)).mpr hq9)
      refine lv_iload_n hx hb dX8_justTo_12 rfl (lv_at hl 1 rfl) ?_
      refine lv_aload_n hx hb dX8_justTo_13 rfl (lv_at hl 2 rfl) ?_
      refine lv_iload_n hx hb dX8_justTo_14 rfl (lv_at hl 0 rfl) ?_
      refine lv_iload_n hx hb dX8_justTo_15 rfl (lv_at hl 3 rfl) ?_
      refine hs_ciM (va_runV (As := [.int (nI q), .int kk]) (rest := [.int sm]) ⟨hx, hb, hml, hown, hts⟩ (gr_findOf l D k _ mo mo_st mo_at mo_isKept mo_pe mo_hm mo_draft mo_dp mo_dh mo_toldLines mo_highest mo_tape mo_tl mo_ps mo_fr mo_sort mo_value mo_ft mo_wrongAt mo_row mo_orderMany mo_fo mo_lightest mo_heaviest mo_before mo_justSum mo_toldSum mo_allWays mo_lanes mo_sizes mo_cells mo_torn mo_had af c0 q kk (by first | exact e0a | exact e0) (by omega) (by omega)) (cwV 2 hts gX8_justTo_X8_findOf rfl rfl rfl ⟨rfl, hq_X8_findOf⟩ ⟨Nat.le_of_ble_eq_true rfl, Nat.le_of_ble_eq_true rfl⟩) (hs_preV hK hN (hs_subP (w := [_, _]) hP [0, 1] rfl) (hD.sub (ws' := [_, _]) [0, 1] (hs_upnd rfl) rfl) (ci := 7) (q0 := 0) rfl rfl) rfl rfl hl.1 rfl (lv_room (Nat.le_of_ble_eq_true rfl)) dX8_justTo_16 ⟨Nat.le_of_ble_eq_true rfl, Nat.le_of_ble_eq_true rfl⟩) hP hD hS hA [false, false] [] [_, _] rfl [0, 1] rfl [0, 1] (fun u_4 => [_, _]) (fun _ => rfl) (hs_upnd rfl) [false, false] (fun u_4 => [_, _]) (fun _ => rfl) (fun r_2 u_4 H locs hw_3 hP hD hS => ?_)
      refine hs_topi (A_vm (A_ml (A_fm af q) (A_lf kk) c0) (af 13)) hw_3 ?_
      refine lv_if_ne (tgt := 26) hx hb dX8_justTo_19 rfl (fun c_5 => ?_) (fun c_5 => ?_)
      · refine lv_iconst (v := 0) hx hb dX8_justTo_26 hki_0 ?_
        refine hs_pi (va_runS (As := [.int 0]) (rest := [.int sm]) ⟨hx, hb, hml, hown, hts⟩ (gr_flagc l D k _ 0) (va_cwS 1 hts gX8_justTo_X8_flag rfl rfl rfl hq_X8_flag ⟨Nat.le_of_ble_eq_true rfl, Nat.le_of_ble_eq_true rfl⟩) (hs_preS hK hN (hs_subP (w := []) hP [] rfl) (hD.sub (ws' := []) [] rfl rfl)) rfl rfl hl.1 rfl (lv_room (Nat.le_of_ble_eq_true rfl)) dX8_justTo_27 ⟨Nat.le_of_ble_eq_true rfl, Nat.le_of_ble_eq_true rfl⟩) hP hD hS hA (fun r_6 u_8 H locs hw_7 hP hS => ?_)
        refine hs_topi 0 (hw_7.trans (by first | rfl | decide +kernel | rfl)) ?_
        refine lv_iload_n hx hb dX8_justTo_30 rfl (lv_at hl 0 rfl) ?_
        refine lv_ishl hx hb dX8_justTo_31 ?_
        refine lv_ior hx hb dX8_justTo_32 ?_
        refine lv_istore_n (lv' := [(2, .int (sm ||| (0 <<< ((nI q) &&& 31)))), (3, .int (nI q)), (0, .ref mo), (1, .int kk)]) hx hb dX8_justTo_33 rfl hl (Nat.le_of_ble_eq_true rfl) rfl (fun ls hl => ?_)
        refine lv_iinc (v := nI (q + 1)) (lv' := [(3, .int (nI (q + 1))), (2, .int (sm ||| (0 <<< ((nI q) &&& 31)))), (0, .ref mo), (1, .int kk)]) hx hb dX8_justTo_34 hl (k := 1) rfl (nI_add (q) 1) (Nat.le_of_ble_eq_true rfl) rfl (fun ls hl => ?_)
        refine lv_goto (tgt := 4) hx hb dX8_justTo_37 rfl ?_
        exact ih4 (sm ||| (0 <<< ((nI q) &&& 31)), q + 1) (by (try dsimp only); exact ⟨by omega, by rw [A_jt, if_neg (show ¬ A_vfm c0 af kk q = 0 from c_5), hI.2, A_jt0 q (by omega), Int32.or_zero]⟩) (by (try dsimp only); omega) _ _ _ hP hD hS (lv_sub hl [0, 1, 2, 3] rfl)
      · refine lv_iconst (v := 1) hx hb dX8_justTo_22 hki_1 ?_
        refine lv_goto (tgt := 27) hx hb dX8_justTo_23 rfl ?_
        refine hs_pi (va_runS (As := [.int 1]) (rest := [.int sm]) ⟨hx, hb, hml, hown, hts⟩ (gr_flagc l D k _ 1) (va_cwS 1 hts gX8_justTo_X8_flag rfl rfl rfl hq_X8_flag ⟨Nat.le_of_ble_eq_true rfl, Nat.le_of_ble_eq_true rfl⟩) (hs_preS hK hN (hs_subP (w := []) hP [] rfl) (hD.sub (ws' := []) [] rfl rfl)) rfl rfl hl.1 rfl (lv_room (Nat.le_of_ble_eq_true rfl)) dX8_justTo_27 ⟨Nat.le_of_ble_eq_true rfl, Nat.le_of_ble_eq_true rfl⟩) hP hD hS hA (fun r_9 u_11 H locs hw_10 hP hS => ?_)
        refine hs_topi 1 (hw_10.trans (by first | rfl | decide +kernel | rfl)) ?_
        refine lv_iload_n hx hb dX8_justTo_30 rfl (lv_at hl 0 rfl) ?_
        refine lv_ishl hx hb dX8_justTo_31 ?_
        refine lv_ior hx hb dX8_justTo_32 ?_
        refine lv_istore_n (lv' := [(2, .int (sm ||| (1 <<< ((nI q) &&& 31)))), (3, .int (nI q)), (0, .ref mo), (1, .int kk)]) hx hb dX8_justTo_33 rfl hl (Nat.le_of_ble_eq_true rfl) rfl (fun ls hl => ?_)
        refine lv_iinc (v := nI (q + 1)) (lv' := [(3, .int (nI (q + 1))), (2, .int (sm ||| (1 <<< ((nI q) &&& 31)))), (0, .ref mo), (1, .int kk)]) hx hb dX8_justTo_34 hl (k := 1) rfl (nI_add (q) 1) (Nat.le_of_ble_eq_true rfl) rfl (fun ls hl => ?_)
        refine lv_goto (tgt := 4) hx hb dX8_justTo_37 rfl ?_
        exact ih4 (sm ||| (1 <<< ((nI q) &&& 31)), q + 1) (by (try dsimp only); exact ⟨by omega, by rw [A_jt, if_pos (show A_vfm c0 af kk q = 0 from c_5), hI.2]; try rfl⟩) (by (try dsimp only); omega) _ _ _ hP hD hS (lv_sub hl [0, 1, 2, 3] rfl)
  · (try dsimp only); exact ⟨Nat.zero_le _, rfl⟩
