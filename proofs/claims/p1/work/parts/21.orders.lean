set_option maxHeartbeats 4000000 in
set_option maxRecDepth 100000 in
theorem m_power_2_2 (l : Launch) (D : va_G) (k : Nat → ClassId) (sz : Nat)   : MI l yX8_power wsX8_power ({ frames := 0, cells := 0, slots := 0, locals := 0 }) D k [.int 2, .int 2] [] sz (fun (r : Int32) (u : Unit) => r = 4) (fun (u : Unit) => []) := by
  refine Met.ofW (cc := cX8_power) (maxL := 4) (ret := (some .int)) (by decide) rfl ?_
  intro p e s m args below meth c s₁ B hml hv
  obtain ⟨rfl, hsz, hP, hK, hD0, hN⟩ := hv
  have hx := B.exec
  have hb := B.bytes
  have hr := B.returns
  have hlocks := B.notSynchronized
  have hts := atoms_spec (ws := wsX8_power) B.pre
  have hown : s.vm.findClass RX8 = some m.cls := findClass_of_methodNamed B.named
  subst hsz
  have hD := hD0.self (sz := s.heap.size)
  generalize hAe : va_A [] s.heap.size = A at hD ⊢
  have hA : ∀ q : Nat, s.heap.size ≤ q → A q := fun q h => by rw [← hAe]; exact Or.inr h
  have hS : va_S A s.heap s.heap [] := va_S.rf
  have hl := lv_entry ([.int 2, .int 2]) (n := 4) (Nat.le_of_ble_eq_true rfl)
  rw [lg_entry_eq]
  generalize (lg_sl ([.int 2, .int 2]) ++ List.replicate (4 - (lg_sl ([.int 2, .int 2])).length) Slot.unset).toArray = ls at hl ⊢
  have hl : lv_has ls 4 [(0, .int 2), (1, .int 2)] := hl
  have hP : va_P D vwCl [] s.heap := hP
  refine lv_iconst (v := 1) hx hb dX8_power_0 (by decide) ?_
  refine lv_istore_n (lv' := [(2, .int 1), (0, .int 2), (1, .int 2)]) hx hb dX8_power_1 rfl hl (by decide) rfl (fun ls hl => ?_)
  refine lv_iconst (v := 0) hx hb dX8_power_2 (by decide) ?_
  refine lv_istore_n (lv' := [(3, .int 0), (2, .int 1), (0, .int 2), (1, .int 2)]) hx hb dX8_power_3 rfl hl (by decide) rfl (fun ls hl => ?_)
  refine lv_iload_n hx hb dX8_power_4 rfl (lv_at hl 0 rfl) ?_
  refine lv_iload_n hx hb dX8_power_5 rfl (lv_at hl 3 rfl) ?_
  refine lv_icmp_ge (tgt := 19) hx hb dX8_power_6 (by decide) (fun c_1 => absurd c_1 (by decide)) (fun c_1 => ?_)
  refine lv_iload_n hx hb dX8_power_9 rfl (lv_at hl 1 rfl) ?_
  refine lv_iload_n hx hb dX8_power_10 rfl (lv_at hl 2 rfl) ?_
  refine lv_imul hx hb dX8_power_11 ?_
  refine hs_topi 2 (by first | rfl | decide +kernel) ?_
  refine lv_istore_n (lv' := [(2, .int 2), (3, .int 0), (0, .int 2), (1, .int 2)]) hx hb dX8_power_12 rfl hl (by decide) rfl (fun ls hl => ?_)
  refine lv_iinc (v := 1) (lv' := [(3, .int 1), (2, .int 2), (0, .int 2), (1, .int 2)]) hx hb dX8_power_13 hl (k := 1) rfl (by decide) (by decide) rfl (fun ls hl => ?_)
  refine lv_goto (tgt := 4) hx hb dX8_power_16 (by decide) ?_
  refine lv_iload_n hx hb dX8_power_4 rfl (lv_at hl 0 rfl) ?_
  refine lv_iload_n hx hb dX8_power_5 rfl (lv_at hl 3 rfl) ?_
  refine lv_icmp_ge (tgt := 19) hx hb dX8_power_6 (by decide) (fun c_2 => absurd c_2 (by decide)) (fun c_2 => ?_)
  refine lv_iload_n hx hb dX8_power_9 rfl (lv_at hl 1 rfl) ?_
  refine lv_iload_n hx hb dX8_power_10 rfl (lv_at hl 2 rfl) ?_
  refine lv_imul hx hb dX8_power_11 ?_
  refine hs_topi 4 (by first | rfl | decide +kernel) ?_
  refine lv_istore_n (lv' := [(2, .int 4), (3, .int 1), (0, .int 2), (1, .int 2)]) hx hb dX8_power_12 rfl hl (by decide) rfl (fun ls hl => ?_)
  refine lv_iinc (v := 2) (lv' := [(3, .int 2), (2, .int 4), (0, .int 2), (1, .int 2)]) hx hb dX8_power_13 hl (k := 1) rfl (by decide) (by decide) rfl (fun ls hl => ?_)
  refine lv_goto (tgt := 4) hx hb dX8_power_16 (by decide) ?_
  refine lv_iload_n hx hb dX8_power_4 rfl (lv_at hl 0 rfl) ?_
  refine lv_iload_n hx hb dX8_power_5 rfl (lv_at hl 3 rfl) ?_
  refine lv_icmp_ge (tgt := 19) hx hb dX8_power_6 (by decide) (fun c_3 => ?_) (fun c_3 => absurd c_3 (by decide))
  refine lv_iload_n hx hb dX8_power_19 rfl (lv_at hl 1 rfl) ?_
  exact hs_iret hx hb hr hlocks hK hP hD hS () [] rfl (by decide) dX8_power_20 (rfl)

set_option maxHeartbeats 4000000 in
set_option maxRecDepth 100000 in
theorem m_power_10_0 (l : Launch) (D : va_G) (k : Nat → ClassId) (sz : Nat)   : MI l yX8_power wsX8_power ({ frames := 0, cells := 0, slots := 0, locals := 0 }) D k [.int 10, .int 0] [] sz (fun (r : Int32) (u : Unit) => r = 1) (fun (u : Unit) => []) := by
  refine Met.ofW (cc := cX8_power) (maxL := 4) (ret := (some .int)) (by decide) rfl ?_
  intro p e s m args below meth c s₁ B hml hv
  obtain ⟨rfl, hsz, hP, hK, hD0, hN⟩ := hv
  have hx := B.exec
  have hb := B.bytes
  have hr := B.returns
  have hlocks := B.notSynchronized
  have hts := atoms_spec (ws := wsX8_power) B.pre
  have hown : s.vm.findClass RX8 = some m.cls := findClass_of_methodNamed B.named
  subst hsz
  have hD := hD0.self (sz := s.heap.size)
  generalize hAe : va_A [] s.heap.size = A at hD ⊢
  have hA : ∀ q : Nat, s.heap.size ≤ q → A q := fun q h => by rw [← hAe]; exact Or.inr h
  have hS : va_S A s.heap s.heap [] := va_S.rf
  have hl := lv_entry ([.int 10, .int 0]) (n := 4) (Nat.le_of_ble_eq_true rfl)
  rw [lg_entry_eq]
  generalize (lg_sl ([.int 10, .int 0]) ++ List.replicate (4 - (lg_sl ([.int 10, .int 0])).length) Slot.unset).toArray = ls at hl ⊢
  have hl : lv_has ls 4 [(0, .int 10), (1, .int 0)] := hl
  have hP : va_P D vwCl [] s.heap := hP
  refine lv_iconst (v := 1) hx hb dX8_power_0 (by decide) ?_
  refine lv_istore_n (lv' := [(2, .int 1), (0, .int 10), (1, .int 0)]) hx hb dX8_power_1 rfl hl (by decide) rfl (fun ls hl => ?_)
  refine lv_iconst (v := 0) hx hb dX8_power_2 (by decide) ?_
  refine lv_istore_n (lv' := [(3, .int 0), (2, .int 1), (0, .int 10), (1, .int 0)]) hx hb dX8_power_3 rfl hl (by decide) rfl (fun ls hl => ?_)
  refine lv_iload_n hx hb dX8_power_4 rfl (lv_at hl 0 rfl) ?_
  refine lv_iload_n hx hb dX8_power_5 rfl (lv_at hl 3 rfl) ?_
  refine lv_icmp_ge (tgt := 19) hx hb dX8_power_6 (by decide) (fun c_1 => ?_) (fun c_1 => absurd c_1 (by decide))
  refine lv_iload_n hx hb dX8_power_19 rfl (lv_at hl 1 rfl) ?_
  exact hs_iret hx hb hr hlocks hK hP hD hS () [] rfl (by decide) dX8_power_20 (rfl)

set_option maxHeartbeats 4000000 in
set_option maxRecDepth 100000 in
theorem m_isOrder_0 (l : Launch) (D : va_G) (k : Nat → ClassId) (sz : Nat) (mo : Nat) (mo_st : Nat) (mo_at : Nat) (mo_isKept : Nat) (mo_people : Int32) (mo_halfMany : Int32) (mo_draft : Nat) (mo_dPeople : Int32) (mo_dHalves : Int32) (mo_toldLines : Int32) (mo_highest : Int32) (mo_tape : Nat) (mo_taped : Int32) (mo_pos : Int32) (mo_from : Int32) (mo_sort : Int32) (mo_value : Int32) (mo_fault : Int32) (mo_wrongAt : Int32) (mo_row : Nat) (mo_orderMany : Int32) (mo_firstOrder : Int32) (mo_lightest : Int32) (mo_heaviest : Int32) (mo_before : Nat) (mo_justSum : Int64) (mo_toldSum : Int64) (mo_allWays : Int64) (mo_lanes : Nat) (mo_sizes : Nat) (mo_cells : Nat) (mo_torn : Int32) (mo_had : Nat) (rf : Nat → Int32)  : MI l yX8_isOrder wsX8_isOrder ({ frames := 0, cells := 0, slots := 0, locals := 0 }) D k [.ref mo, .int 0, .int 2] [(mo, .inr (7, [.ref mo_st, .ref mo_at, .ref mo_isKept, .int mo_people, .int mo_halfMany, .ref mo_draft, .int mo_dPeople, .int mo_dHalves, .int mo_toldLines, .int mo_highest, .ref mo_tape, .int mo_taped, .int mo_pos, .int mo_from, .int mo_sort, .int mo_value, .int mo_fault, .int mo_wrongAt, .ref mo_row, .int mo_orderMany, .int mo_firstOrder, .int mo_lightest, .int mo_heaviest, .ref mo_before, .long mo_justSum, .long mo_toldSum, .long mo_allWays, .ref mo_lanes, .ref mo_sizes, .ref mo_cells, .int mo_torn, .ref mo_had])), (mo_row, .inl (k 0, 5, .inl (rf)))] sz (fun (r : Int32) (u : Unit) => r = 0) (fun (u : Unit) => [(mo, .inr (7, [.ref mo_st, .ref mo_at, .ref mo_isKept, .int mo_people, .int mo_halfMany, .ref mo_draft, .int mo_dPeople, .int mo_dHalves, .int mo_toldLines, .int mo_highest, .ref mo_tape, .int mo_taped, .int mo_pos, .int mo_from, .int mo_sort, .int mo_value, .int mo_fault, .int mo_wrongAt, .ref mo_row, .int mo_orderMany, .int mo_firstOrder, .int mo_lightest, .int mo_heaviest, .ref mo_before, .long mo_justSum, .long mo_toldSum, .long mo_allWays, .ref mo_lanes, .ref mo_sizes, .ref mo_cells, .int mo_torn, .ref mo_had])), (mo_row, .inl (k 0, 5, .inl (upd (upd rf 1 0) 0 0)))]) := by
  refine Met.ofW (cc := cX8_isOrder) (maxL := 6) (ret := (some .boolean)) (by decide) rfl ?_
  intro p e s m args below meth c s₁ B hml hv
  obtain ⟨rfl, hsz, hP, hK, hD0, hN⟩ := hv
  have hx := B.exec
  have hb := B.bytes
  have hr := B.returns
  have hlocks := B.notSynchronized
  have hts := atoms_spec (ws := wsX8_isOrder) B.pre
  have hown : s.vm.findClass RX8 = some m.cls := findClass_of_methodNamed B.named
  have hiX8 : ∀ w ∈ u_ws RX8 TX8 32, w ∈ wsX8_isOrder := by decide +kernel
  have fl26 := hts (.fieldLink RX8 26 "HalfScalesModel" "row" "[I") (by decide +kernel)
  subst hsz
  have hD := hD0.self (sz := s.heap.size)
  generalize hAe : va_A [(mo, .inr (7, [.ref mo_st, .ref mo_at, .ref mo_isKept, .int mo_people, .int mo_halfMany, .ref mo_draft, .int mo_dPeople, .int mo_dHalves, .int mo_toldLines, .int mo_highest, .ref mo_tape, .int mo_taped, .int mo_pos, .int mo_from, .int mo_sort, .int mo_value, .int mo_fault, .int mo_wrongAt, .ref mo_row, .int mo_orderMany, .int mo_firstOrder, .int mo_lightest, .int mo_heaviest, .ref mo_before, .long mo_justSum, .long mo_toldSum, .long mo_allWays, .ref mo_lanes, .ref mo_sizes, .ref mo_cells, .int mo_torn, .ref mo_had])), (mo_row, .inl (k 0, 5, .inl (rf)))] s.heap.size = A at hD ⊢
  have hA : ∀ q : Nat, s.heap.size ≤ q → A q := fun q h => by rw [← hAe]; exact Or.inr h
  have hS : va_S A s.heap s.heap [] := va_S.rf
  have hl := lv_entry ([.ref mo, .int 0, .int 2]) (n := 6) (Nat.le_of_ble_eq_true rfl)
  rw [lg_entry_eq]
  generalize (lg_sl ([.ref mo, .int 0, .int 2]) ++ List.replicate (6 - (lg_sl ([.ref mo, .int 0, .int 2])).length) Slot.unset).toArray = ls at hl ⊢
  have hl : lv_has ls 6 [(0, .ref mo), (1, .int 0), (2, .int 2)] := hl
  have hP : va_P D vwCl [(mo, .inr (7, [.ref mo_st, .ref mo_at, .ref mo_isKept, .int mo_people, .int mo_halfMany, .ref mo_draft, .int mo_dPeople, .int mo_dHalves, .int mo_toldLines, .int mo_highest, .ref mo_tape, .int mo_taped, .int mo_pos, .int mo_from, .int mo_sort, .int mo_value, .int mo_fault, .int mo_wrongAt, .ref mo_row, .int mo_orderMany, .int mo_firstOrder, .int mo_lightest, .int mo_heaviest, .ref mo_before, .long mo_justSum, .long mo_toldSum, .long mo_allWays, .ref mo_lanes, .ref mo_sizes, .ref mo_cells, .int mo_torn, .ref mo_had])), (mo_row, .inl (k 0, 5, .inl (rf)))] s.heap := hP
  refine lv_iload_n hx hb dX8_isOrder_0 rfl (lv_at hl 1 rfl) ?_
  refine lv_istore_n (lv' := [(3, .int 0), (0, .ref mo), (1, .int 0), (2, .int 2)]) hx hb dX8_isOrder_1 rfl hl (by decide) rfl (fun ls hl => ?_)
  refine lv_iconst (v := 0) hx hb dX8_isOrder_2 (by decide) ?_
  refine lv_istore (lv' := [(4, .int 0), (3, .int 0), (0, .ref mo), (1, .int 0), (2, .int 2)]) hx hb dX8_isOrder_3 hl (by decide) rfl (fun ls hl => ?_)
  refine lv_iload_n hx hb dX8_isOrder_5 rfl (lv_at hl 4 rfl) ?_
  refine lv_iconst (v := 1) hx hb dX8_isOrder_6 (by decide) ?_
  refine lv_isub hx hb dX8_isOrder_7 ?_
  refine hs_topi 1 (by first | rfl | decide +kernel) ?_
  refine lv_istore (lv' := [(5, .int 1), (4, .int 0), (3, .int 0), (0, .ref mo), (1, .int 0), (2, .int 2)]) hx hb dX8_isOrder_8 hl (by decide) rfl (fun ls hl => ?_)
  refine lv_iload hx hb dX8_isOrder_10 (lv_at hl 0 rfl) ?_
  refine lv_if_lt (tgt := 49) hx hb dX8_isOrder_12 (by decide) (fun c_1 => absurd c_1 (by decide)) (fun c_1 => ?_)
  refine lv_aload_n hx hb dX8_isOrder_15 rfl (lv_at hl 3 rfl) ?_
  refine va_get (D := D) (ci := 7) (v := .ref mo_row) (C := RX8) (T := TX8) (N := 32) hx hb hts hiX8 hown hK hP 0 rfl rfl 18 (by decide) fl26 (fun _ h9 => h9) rfl dX8_isOrder_16 ?_
  refine lv_iload hx hb dX8_isOrder_19 (lv_at hl 0 rfl) ?_
  refine lv_iload_n hx hb dX8_isOrder_21 rfl (lv_at hl 2 rfl) ?_
  refine lv_iload_n hx hb dX8_isOrder_22 rfl (lv_at hl 5 rfl) ?_
  refine lv_irem hx hb dX8_isOrder_23 (by decide) ?_
  refine hs_topi 0 (by first | rfl | decide +kernel) ?_
  refine va_iast hx hb hK hP hD hS 1 0 rfl rfl (hs_in (by decide)) dX8_isOrder_24 (fun H locs hP hD hS => ?_)
  have hP : va_P D vwCl [(mo, .inr (7, [.ref mo_st, .ref mo_at, .ref mo_isKept, .int mo_people, .int mo_halfMany, .ref mo_draft, .int mo_dPeople, .int mo_dHalves, .int mo_toldLines, .int mo_highest, .ref mo_tape, .int mo_taped, .int mo_pos, .int mo_from, .int mo_sort, .int mo_value, .int mo_fault, .int mo_wrongAt, .ref mo_row, .int mo_orderMany, .int mo_firstOrder, .int mo_lightest, .int mo_heaviest, .ref mo_before, .long mo_justSum, .long mo_toldSum, .long mo_allWays, .ref mo_lanes, .ref mo_sizes, .ref mo_cells, .int mo_torn, .ref mo_had])), (mo_row, .inl (k 0, 5, .inl (upd rf 1 0)))] H := hP
  have hD : va_D A [(mo, .inr (7, [.ref mo_st, .ref mo_at, .ref mo_isKept, .int mo_people, .int mo_halfMany, .ref mo_draft, .int mo_dPeople, .int mo_dHalves, .int mo_toldLines, .int mo_highest, .ref mo_tape, .int mo_taped, .int mo_pos, .int mo_from, .int mo_sort, .int mo_value, .int mo_fault, .int mo_wrongAt, .ref mo_row, .int mo_orderMany, .int mo_firstOrder, .int mo_lightest, .int mo_heaviest, .ref mo_before, .long mo_justSum, .long mo_toldSum, .long mo_allWays, .ref mo_lanes, .ref mo_sizes, .ref mo_cells, .int mo_torn, .ref mo_had])), (mo_row, .inl (k 0, 5, .inl (upd rf 1 0)))] := hD
  refine lv_iload_n hx hb dX8_isOrder_25 rfl (lv_at hl 2 rfl) ?_
  refine lv_iload_n hx hb dX8_isOrder_26 rfl (lv_at hl 5 rfl) ?_
  refine lv_idiv hx hb dX8_isOrder_27 (by decide) ?_
  refine hs_topi 0 (by first | rfl | decide +kernel) ?_
  refine lv_istore_n (lv' := [(3, .int 0), (5, .int 1), (4, .int 0), (0, .ref mo), (1, .int 0), (2, .int 2)]) hx hb dX8_isOrder_28 rfl hl (by decide) rfl (fun ls hl => ?_)
  refine lv_iload hx hb dX8_isOrder_29 (lv_at hl 2 rfl) ?_
  refine lv_iconst (v := 1) hx hb dX8_isOrder_31 (by decide) ?_
  refine lv_aload_n hx hb dX8_isOrder_32 rfl (lv_at hl 3 rfl) ?_
  refine va_get (D := D) (ci := 7) (v := .ref mo_row) (C := RX8) (T := TX8) (N := 32) hx hb hts hiX8 hown hK hP 0 rfl rfl 18 (by decide) fl26 (fun _ h9 => h9) rfl dX8_isOrder_33 ?_
  refine lv_iload hx hb dX8_isOrder_36 (lv_at hl 1 rfl) ?_
  refine va_iald hx hb hK hP 1 0 rfl rfl (hs_in (by decide)) dX8_isOrder_38 ?_
  refine hs_topi 0 (by first | rfl | decide +kernel) ?_
  refine lv_ishl hx hb dX8_isOrder_39 ?_
  refine hs_topi 1 (by first | rfl | decide +kernel) ?_
  refine lv_ior hx hb dX8_isOrder_40 ?_
  refine hs_topi 1 (by first | rfl | decide +kernel) ?_
  refine lv_istore (lv' := [(4, .int 1), (3, .int 0), (5, .int 1), (0, .ref mo), (1, .int 0), (2, .int 2)]) hx hb dX8_isOrder_41 hl (by decide) rfl (fun ls hl => ?_)
  refine lv_iinc (v := 0) (lv' := [(5, .int 0), (4, .int 1), (3, .int 0), (0, .ref mo), (1, .int 0), (2, .int 2)]) hx hb dX8_isOrder_43 hl (k := 2) rfl (by decide) (by decide) rfl (fun ls hl => ?_)
  refine lv_goto (tgt := 10) hx hb dX8_isOrder_46 (by decide) ?_
  refine lv_iload hx hb dX8_isOrder_10 (lv_at hl 0 rfl) ?_
  refine lv_if_lt (tgt := 49) hx hb dX8_isOrder_12 (by decide) (fun c_2 => absurd c_2 (by decide)) (fun c_2 => ?_)
  refine lv_aload_n hx hb dX8_isOrder_15 rfl (lv_at hl 3 rfl) ?_
  refine va_get (D := D) (ci := 7) (v := .ref mo_row) (C := RX8) (T := TX8) (N := 32) hx hb hts hiX8 hown hK hP 0 rfl rfl 18 (by decide) fl26 (fun _ h9 => h9) rfl dX8_isOrder_16 ?_
  refine lv_iload hx hb dX8_isOrder_19 (lv_at hl 0 rfl) ?_
  refine lv_iload_n hx hb dX8_isOrder_21 rfl (lv_at hl 2 rfl) ?_
  refine lv_iload_n hx hb dX8_isOrder_22 rfl (lv_at hl 5 rfl) ?_
  refine lv_irem hx hb dX8_isOrder_23 (by decide) ?_
  refine hs_topi 0 (by first | rfl | decide +kernel) ?_
  refine va_iast hx hb hK hP hD hS 1 0 rfl rfl (hs_in (by decide)) dX8_isOrder_24 (fun H locs hP hD hS => ?_)
  have hP : va_P D vwCl [(mo, .inr (7, [.ref mo_st, .ref mo_at, .ref mo_isKept, .int mo_people, .int mo_halfMany, .ref mo_draft, .int mo_dPeople, .int mo_dHalves, .int mo_toldLines, .int mo_highest, .ref mo_tape, .int mo_taped, .int mo_pos, .int mo_from, .int mo_sort, .int mo_value, .int mo_fault, .int mo_wrongAt, .ref mo_row, .int mo_orderMany, .int mo_firstOrder, .int mo_lightest, .int mo_heaviest, .ref mo_before, .long mo_justSum, .long mo_toldSum, .long mo_allWays, .ref mo_lanes, .ref mo_sizes, .ref mo_cells, .int mo_torn, .ref mo_had])), (mo_row, .inl (k 0, 5, .inl (upd (upd rf 1 0) 0 0)))] H := hP
  have hD : va_D A [(mo, .inr (7, [.ref mo_st, .ref mo_at, .ref mo_isKept, .int mo_people, .int mo_halfMany, .ref mo_draft, .int mo_dPeople, .int mo_dHalves, .int mo_toldLines, .int mo_highest, .ref mo_tape, .int mo_taped, .int mo_pos, .int mo_from, .int mo_sort, .int mo_value, .int mo_fault, .int mo_wrongAt, .ref mo_row, .int mo_orderMany, .int mo_firstOrder, .int mo_lightest, .int mo_heaviest, .ref mo_before, .long mo_justSum, .long mo_toldSum, .long mo_allWays, .ref mo_lanes, .ref mo_sizes, .ref mo_cells, .int mo_torn, .ref mo_had])), (mo_row, .inl (k 0, 5, .inl (upd (upd rf 1 0) 0 0)))] := hD
  refine lv_iload_n hx hb dX8_isOrder_25 rfl (lv_at hl 2 rfl) ?_
  refine lv_iload_n hx hb dX8_isOrder_26 rfl (lv_at hl 5 rfl) ?_
  refine lv_idiv hx hb dX8_isOrder_27 (by decide) ?_
  refine hs_topi 0 (by first | rfl | decide +kernel) ?_
  refine lv_istore_n (lv' := [(3, .int 0), (5, .int 0), (4, .int 1), (0, .ref mo), (1, .int 0), (2, .int 2)]) hx hb dX8_isOrder_28 rfl hl (by decide) rfl (fun ls hl => ?_)
  refine lv_iload hx hb dX8_isOrder_29 (lv_at hl 2 rfl) ?_
  refine lv_iconst (v := 1) hx hb dX8_isOrder_31 (by decide) ?_
  refine lv_aload_n hx hb dX8_isOrder_32 rfl (lv_at hl 3 rfl) ?_
  refine va_get (D := D) (ci := 7) (v := .ref mo_row) (C := RX8) (T := TX8) (N := 32) hx hb hts hiX8 hown hK hP 0 rfl rfl 18 (by decide) fl26 (fun _ h9 => h9) rfl dX8_isOrder_33 ?_
  refine lv_iload hx hb dX8_isOrder_36 (lv_at hl 1 rfl) ?_
  refine va_iald hx hb hK hP 1 0 rfl rfl (hs_in (by decide)) dX8_isOrder_38 ?_
  refine hs_topi 0 (by first | rfl | decide +kernel) ?_
  refine lv_ishl hx hb dX8_isOrder_39 ?_
  refine hs_topi 1 (by first | rfl | decide +kernel) ?_
  refine lv_ior hx hb dX8_isOrder_40 ?_
  refine hs_topi 1 (by first | rfl | decide +kernel) ?_
  refine lv_istore (lv' := [(4, .int 1), (3, .int 0), (5, .int 0), (0, .ref mo), (1, .int 0), (2, .int 2)]) hx hb dX8_isOrder_41 hl (by decide) rfl (fun ls hl => ?_)
  refine lv_iinc (v := (-1)) (lv' := [(5, .int (-1)), (4, .int 1), (3, .int 0), (0, .ref mo), (1, .int 0), (2, .int 2)]) hx hb dX8_isOrder_43 hl (k := 2) rfl (by decide) (by decide) rfl (fun ls hl => ?_)
  refine lv_goto (tgt := 10) hx hb dX8_isOrder_46 (by decide) ?_
  refine lv_iload hx hb dX8_isOrder_10 (lv_at hl 0 rfl) ?_
  refine lv_if_lt (tgt := 49) hx hb dX8_isOrder_12 (by decide) (fun c_3 => ?_) (fun c_3 => absurd c_3 (by decide))
  refine lv_iload hx hb dX8_isOrder_49 (lv_at hl 1 rfl) ?_
  refine lv_iconst (v := 1) hx hb dX8_isOrder_51 (by decide) ?_
  refine lv_iload_n hx hb dX8_isOrder_52 rfl (lv_at hl 5 rfl) ?_
  refine lv_ishl hx hb dX8_isOrder_53 ?_
  refine hs_topi 4 (by first | rfl | decide +kernel) ?_
  refine lv_iconst (v := 1) hx hb dX8_isOrder_54 (by decide) ?_
  refine lv_isub hx hb dX8_isOrder_55 ?_
  refine hs_topi 3 (by first | rfl | decide +kernel) ?_
  refine lv_icmp_ne (tgt := 63) hx hb dX8_isOrder_56 (by decide) (fun c_4 => ?_) (fun c_4 => absurd c_4 (by decide))
  refine lv_iconst (v := 0) hx hb dX8_isOrder_63 (by decide) ?_
  exact hs_zret hx hb hr hlocks hK hP hD hS () [0, 1] rfl (by decide) dX8_isOrder_64 rfl (rfl)

set_option maxHeartbeats 4000000 in
set_option maxRecDepth 100000 in
theorem m_isOrder_1 (l : Launch) (D : va_G) (k : Nat → ClassId) (sz : Nat) (mo : Nat) (mo_st : Nat) (mo_at : Nat) (mo_isKept : Nat) (mo_people : Int32) (mo_halfMany : Int32) (mo_draft : Nat) (mo_dPeople : Int32) (mo_dHalves : Int32) (mo_toldLines : Int32) (mo_highest : Int32) (mo_tape : Nat) (mo_taped : Int32) (mo_pos : Int32) (mo_from : Int32) (mo_sort : Int32) (mo_value : Int32) (mo_fault : Int32) (mo_wrongAt : Int32) (mo_row : Nat) (mo_orderMany : Int32) (mo_firstOrder : Int32) (mo_lightest : Int32) (mo_heaviest : Int32) (mo_before : Nat) (mo_justSum : Int64) (mo_toldSum : Int64) (mo_allWays : Int64) (mo_lanes : Nat) (mo_sizes : Nat) (mo_cells : Nat) (mo_torn : Int32) (mo_had : Nat) (rf : Nat → Int32)  : MI l yX8_isOrder wsX8_isOrder ({ frames := 0, cells := 0, slots := 0, locals := 0 }) D k [.ref mo, .int 1, .int 2] [(mo, .inr (7, [.ref mo_st, .ref mo_at, .ref mo_isKept, .int mo_people, .int mo_halfMany, .ref mo_draft, .int mo_dPeople, .int mo_dHalves, .int mo_toldLines, .int mo_highest, .ref mo_tape, .int mo_taped, .int mo_pos, .int mo_from, .int mo_sort, .int mo_value, .int mo_fault, .int mo_wrongAt, .ref mo_row, .int mo_orderMany, .int mo_firstOrder, .int mo_lightest, .int mo_heaviest, .ref mo_before, .long mo_justSum, .long mo_toldSum, .long mo_allWays, .ref mo_lanes, .ref mo_sizes, .ref mo_cells, .int mo_torn, .ref mo_had])), (mo_row, .inl (k 0, 5, .inl (rf)))] sz (fun (r : Int32) (u : Unit) => r = 1) (fun (u : Unit) => [(mo, .inr (7, [.ref mo_st, .ref mo_at, .ref mo_isKept, .int mo_people, .int mo_halfMany, .ref mo_draft, .int mo_dPeople, .int mo_dHalves, .int mo_toldLines, .int mo_highest, .ref mo_tape, .int mo_taped, .int mo_pos, .int mo_from, .int mo_sort, .int mo_value, .int mo_fault, .int mo_wrongAt, .ref mo_row, .int mo_orderMany, .int mo_firstOrder, .int mo_lightest, .int mo_heaviest, .ref mo_before, .long mo_justSum, .long mo_toldSum, .long mo_allWays, .ref mo_lanes, .ref mo_sizes, .ref mo_cells, .int mo_torn, .ref mo_had])), (mo_row, .inl (k 0, 5, .inl (upd (upd rf 1 1) 0 0)))]) := by
  refine Met.ofW (cc := cX8_isOrder) (maxL := 6) (ret := (some .boolean)) (by decide) rfl ?_
  intro p e s m args below meth c s₁ B hml hv
  obtain ⟨rfl, hsz, hP, hK, hD0, hN⟩ := hv
  have hx := B.exec
  have hb := B.bytes
  have hr := B.returns
  have hlocks := B.notSynchronized
  have hts := atoms_spec (ws := wsX8_isOrder) B.pre
  have hown : s.vm.findClass RX8 = some m.cls := findClass_of_methodNamed B.named
  have hiX8 : ∀ w ∈ u_ws RX8 TX8 32, w ∈ wsX8_isOrder := by decide +kernel
  have fl26 := hts (.fieldLink RX8 26 "HalfScalesModel" "row" "[I") (by decide +kernel)
  subst hsz
  have hD := hD0.self (sz := s.heap.size)
  generalize hAe : va_A [(mo, .inr (7, [.ref mo_st, .ref mo_at, .ref mo_isKept, .int mo_people, .int mo_halfMany, .ref mo_draft, .int mo_dPeople, .int mo_dHalves, .int mo_toldLines, .int mo_highest, .ref mo_tape, .int mo_taped, .int mo_pos, .int mo_from, .int mo_sort, .int mo_value, .int mo_fault, .int mo_wrongAt, .ref mo_row, .int mo_orderMany, .int mo_firstOrder, .int mo_lightest, .int mo_heaviest, .ref mo_before, .long mo_justSum, .long mo_toldSum, .long mo_allWays, .ref mo_lanes, .ref mo_sizes, .ref mo_cells, .int mo_torn, .ref mo_had])), (mo_row, .inl (k 0, 5, .inl (rf)))] s.heap.size = A at hD ⊢
  have hA : ∀ q : Nat, s.heap.size ≤ q → A q := fun q h => by rw [← hAe]; exact Or.inr h
  have hS : va_S A s.heap s.heap [] := va_S.rf
  have hl := lv_entry ([.ref mo, .int 1, .int 2]) (n := 6) (Nat.le_of_ble_eq_true rfl)
  rw [lg_entry_eq]
  generalize (lg_sl ([.ref mo, .int 1, .int 2]) ++ List.replicate (6 - (lg_sl ([.ref mo, .int 1, .int 2])).length) Slot.unset).toArray = ls at hl ⊢
  have hl : lv_has ls 6 [(0, .ref mo), (1, .int 1), (2, .int 2)] := hl
  have hP : va_P D vwCl [(mo, .inr (7, [.ref mo_st, .ref mo_at, .ref mo_isKept, .int mo_people, .int mo_halfMany, .ref mo_draft, .int mo_dPeople, .int mo_dHalves, .int mo_toldLines, .int mo_highest, .ref mo_tape, .int mo_taped, .int mo_pos, .int mo_from, .int mo_sort, .int mo_value, .int mo_fault, .int mo_wrongAt, .ref mo_row, .int mo_orderMany, .int mo_firstOrder, .int mo_lightest, .int mo_heaviest, .ref mo_before, .long mo_justSum, .long mo_toldSum, .long mo_allWays, .ref mo_lanes, .ref mo_sizes, .ref mo_cells, .int mo_torn, .ref mo_had])), (mo_row, .inl (k 0, 5, .inl (rf)))] s.heap := hP
  refine lv_iload_n hx hb dX8_isOrder_0 rfl (lv_at hl 1 rfl) ?_
  refine lv_istore_n (lv' := [(3, .int 1), (0, .ref mo), (1, .int 1), (2, .int 2)]) hx hb dX8_isOrder_1 rfl hl (by decide) rfl (fun ls hl => ?_)
  refine lv_iconst (v := 0) hx hb dX8_isOrder_2 (by decide) ?_
  refine lv_istore (lv' := [(4, .int 0), (3, .int 1), (0, .ref mo), (1, .int 1), (2, .int 2)]) hx hb dX8_isOrder_3 hl (by decide) rfl (fun ls hl => ?_)
  refine lv_iload_n hx hb dX8_isOrder_5 rfl (lv_at hl 4 rfl) ?_
  refine lv_iconst (v := 1) hx hb dX8_isOrder_6 (by decide) ?_
  refine lv_isub hx hb dX8_isOrder_7 ?_
  refine hs_topi 1 (by first | rfl | decide +kernel) ?_
  refine lv_istore (lv' := [(5, .int 1), (4, .int 0), (3, .int 1), (0, .ref mo), (1, .int 1), (2, .int 2)]) hx hb dX8_isOrder_8 hl (by decide) rfl (fun ls hl => ?_)
  refine lv_iload hx hb dX8_isOrder_10 (lv_at hl 0 rfl) ?_
  refine lv_if_lt (tgt := 49) hx hb dX8_isOrder_12 (by decide) (fun c_1 => absurd c_1 (by decide)) (fun c_1 => ?_)
  refine lv_aload_n hx hb dX8_isOrder_15 rfl (lv_at hl 3 rfl) ?_
  refine va_get (D := D) (ci := 7) (v := .ref mo_row) (C := RX8) (T := TX8) (N := 32) hx hb hts hiX8 hown hK hP 0 rfl rfl 18 (by decide) fl26 (fun _ h9 => h9) rfl dX8_isOrder_16 ?_
  refine lv_iload hx hb dX8_isOrder_19 (lv_at hl 0 rfl) ?_
  refine lv_iload_n hx hb dX8_isOrder_21 rfl (lv_at hl 2 rfl) ?_
  refine lv_iload_n hx hb dX8_isOrder_22 rfl (lv_at hl 5 rfl) ?_
  refine lv_irem hx hb dX8_isOrder_23 (by decide) ?_
  refine hs_topi 1 (by first | rfl | decide +kernel) ?_
  refine va_iast hx hb hK hP hD hS 1 0 rfl rfl (hs_in (by decide)) dX8_isOrder_24 (fun H locs hP hD hS => ?_)
  have hP : va_P D vwCl [(mo, .inr (7, [.ref mo_st, .ref mo_at, .ref mo_isKept, .int mo_people, .int mo_halfMany, .ref mo_draft, .int mo_dPeople, .int mo_dHalves, .int mo_toldLines, .int mo_highest, .ref mo_tape, .int mo_taped, .int mo_pos, .int mo_from, .int mo_sort, .int mo_value, .int mo_fault, .int mo_wrongAt, .ref mo_row, .int mo_orderMany, .int mo_firstOrder, .int mo_lightest, .int mo_heaviest, .ref mo_before, .long mo_justSum, .long mo_toldSum, .long mo_allWays, .ref mo_lanes, .ref mo_sizes, .ref mo_cells, .int mo_torn, .ref mo_had])), (mo_row, .inl (k 0, 5, .inl (upd rf 1 1)))] H := hP
  have hD : va_D A [(mo, .inr (7, [.ref mo_st, .ref mo_at, .ref mo_isKept, .int mo_people, .int mo_halfMany, .ref mo_draft, .int mo_dPeople, .int mo_dHalves, .int mo_toldLines, .int mo_highest, .ref mo_tape, .int mo_taped, .int mo_pos, .int mo_from, .int mo_sort, .int mo_value, .int mo_fault, .int mo_wrongAt, .ref mo_row, .int mo_orderMany, .int mo_firstOrder, .int mo_lightest, .int mo_heaviest, .ref mo_before, .long mo_justSum, .long mo_toldSum, .long mo_allWays, .ref mo_lanes, .ref mo_sizes, .ref mo_cells, .int mo_torn, .ref mo_had])), (mo_row, .inl (k 0, 5, .inl (upd rf 1 1)))] := hD
  refine lv_iload_n hx hb dX8_isOrder_25 rfl (lv_at hl 2 rfl) ?_
  refine lv_iload_n hx hb dX8_isOrder_26 rfl (lv_at hl 5 rfl) ?_
  refine lv_idiv hx hb dX8_isOrder_27 (by decide) ?_
  refine hs_topi 0 (by first | rfl | decide +kernel) ?_
  refine lv_istore_n (lv' := [(3, .int 0), (5, .int 1), (4, .int 0), (0, .ref mo), (1, .int 1), (2, .int 2)]) hx hb dX8_isOrder_28 rfl hl (by decide) rfl (fun ls hl => ?_)
  refine lv_iload hx hb dX8_isOrder_29 (lv_at hl 2 rfl) ?_
  refine lv_iconst (v := 1) hx hb dX8_isOrder_31 (by decide) ?_
  refine lv_aload_n hx hb dX8_isOrder_32 rfl (lv_at hl 3 rfl) ?_
  refine va_get (D := D) (ci := 7) (v := .ref mo_row) (C := RX8) (T := TX8) (N := 32) hx hb hts hiX8 hown hK hP 0 rfl rfl 18 (by decide) fl26 (fun _ h9 => h9) rfl dX8_isOrder_33 ?_
  refine lv_iload hx hb dX8_isOrder_36 (lv_at hl 1 rfl) ?_
  refine va_iald hx hb hK hP 1 0 rfl rfl (hs_in (by decide)) dX8_isOrder_38 ?_
  refine hs_topi 1 (by first | rfl | decide +kernel) ?_
  refine lv_ishl hx hb dX8_isOrder_39 ?_
  refine hs_topi 2 (by first | rfl | decide +kernel) ?_
  refine lv_ior hx hb dX8_isOrder_40 ?_
  refine hs_topi 2 (by first | rfl | decide +kernel) ?_
  refine lv_istore (lv' := [(4, .int 2), (3, .int 0), (5, .int 1), (0, .ref mo), (1, .int 1), (2, .int 2)]) hx hb dX8_isOrder_41 hl (by decide) rfl (fun ls hl => ?_)
  refine lv_iinc (v := 0) (lv' := [(5, .int 0), (4, .int 2), (3, .int 0), (0, .ref mo), (1, .int 1), (2, .int 2)]) hx hb dX8_isOrder_43 hl (k := 2) rfl (by decide) (by decide) rfl (fun ls hl => ?_)
  refine lv_goto (tgt := 10) hx hb dX8_isOrder_46 (by decide) ?_
  refine lv_iload hx hb dX8_isOrder_10 (lv_at hl 0 rfl) ?_
  refine lv_if_lt (tgt := 49) hx hb dX8_isOrder_12 (by decide) (fun c_2 => absurd c_2 (by decide)) (fun c_2 => ?_)
  refine lv_aload_n hx hb dX8_isOrder_15 rfl (lv_at hl 3 rfl) ?_
  refine va_get (D := D) (ci := 7) (v := .ref mo_row) (C := RX8) (T := TX8) (N := 32) hx hb hts hiX8 hown hK hP 0 rfl rfl 18 (by decide) fl26 (fun _ h9 => h9) rfl dX8_isOrder_16 ?_
  refine lv_iload hx hb dX8_isOrder_19 (lv_at hl 0 rfl) ?_
  refine lv_iload_n hx hb dX8_isOrder_21 rfl (lv_at hl 2 rfl) ?_
  refine lv_iload_n hx hb dX8_isOrder_22 rfl (lv_at hl 5 rfl) ?_
  refine lv_irem hx hb dX8_isOrder_23 (by decide) ?_
  refine hs_topi 0 (by first | rfl | decide +kernel) ?_
  refine va_iast hx hb hK hP hD hS 1 0 rfl rfl (hs_in (by decide)) dX8_isOrder_24 (fun H locs hP hD hS => ?_)
  have hP : va_P D vwCl [(mo, .inr (7, [.ref mo_st, .ref mo_at, .ref mo_isKept, .int mo_people, .int mo_halfMany, .ref mo_draft, .int mo_dPeople, .int mo_dHalves, .int mo_toldLines, .int mo_highest, .ref mo_tape, .int mo_taped, .int mo_pos, .int mo_from, .int mo_sort, .int mo_value, .int mo_fault, .int mo_wrongAt, .ref mo_row, .int mo_orderMany, .int mo_firstOrder, .int mo_lightest, .int mo_heaviest, .ref mo_before, .long mo_justSum, .long mo_toldSum, .long mo_allWays, .ref mo_lanes, .ref mo_sizes, .ref mo_cells, .int mo_torn, .ref mo_had])), (mo_row, .inl (k 0, 5, .inl (upd (upd rf 1 1) 0 0)))] H := hP
  have hD : va_D A [(mo, .inr (7, [.ref mo_st, .ref mo_at, .ref mo_isKept, .int mo_people, .int mo_halfMany, .ref mo_draft, .int mo_dPeople, .int mo_dHalves, .int mo_toldLines, .int mo_highest, .ref mo_tape, .int mo_taped, .int mo_pos, .int mo_from, .int mo_sort, .int mo_value, .int mo_fault, .int mo_wrongAt, .ref mo_row, .int mo_orderMany, .int mo_firstOrder, .int mo_lightest, .int mo_heaviest, .ref mo_before, .long mo_justSum, .long mo_toldSum, .long mo_allWays, .ref mo_lanes, .ref mo_sizes, .ref mo_cells, .int mo_torn, .ref mo_had])), (mo_row, .inl (k 0, 5, .inl (upd (upd rf 1 1) 0 0)))] := hD
  refine lv_iload_n hx hb dX8_isOrder_25 rfl (lv_at hl 2 rfl) ?_
  refine lv_iload_n hx hb dX8_isOrder_26 rfl (lv_at hl 5 rfl) ?_
  refine lv_idiv hx hb dX8_isOrder_27 (by decide) ?_
  refine hs_topi 0 (by first | rfl | decide +kernel) ?_
  refine lv_istore_n (lv' := [(3, .int 0), (5, .int 0), (4, .int 2), (0, .ref mo), (1, .int 1), (2, .int 2)]) hx hb dX8_isOrder_28 rfl hl (by decide) rfl (fun ls hl => ?_)
  refine lv_iload hx hb dX8_isOrder_29 (lv_at hl 2 rfl) ?_
  refine lv_iconst (v := 1) hx hb dX8_isOrder_31 (by decide) ?_
  refine lv_aload_n hx hb dX8_isOrder_32 rfl (lv_at hl 3 rfl) ?_
  refine va_get (D := D) (ci := 7) (v := .ref mo_row) (C := RX8) (T := TX8) (N := 32) hx hb hts hiX8 hown hK hP 0 rfl rfl 18 (by decide) fl26 (fun _ h9 => h9) rfl dX8_isOrder_33 ?_
  refine lv_iload hx hb dX8_isOrder_36 (lv_at hl 1 rfl) ?_
  refine va_iald hx hb hK hP 1 0 rfl rfl (hs_in (by decide)) dX8_isOrder_38 ?_
  refine hs_topi 0 (by first | rfl | decide +kernel) ?_
  refine lv_ishl hx hb dX8_isOrder_39 ?_
  refine hs_topi 1 (by first | rfl | decide +kernel) ?_
  refine lv_ior hx hb dX8_isOrder_40 ?_
  refine hs_topi 3 (by first | rfl | decide +kernel) ?_
  refine lv_istore (lv' := [(4, .int 3), (3, .int 0), (5, .int 0), (0, .ref mo), (1, .int 1), (2, .int 2)]) hx hb dX8_isOrder_41 hl (by decide) rfl (fun ls hl => ?_)
  refine lv_iinc (v := (-1)) (lv' := [(5, .int (-1)), (4, .int 3), (3, .int 0), (0, .ref mo), (1, .int 1), (2, .int 2)]) hx hb dX8_isOrder_43 hl (k := 2) rfl (by decide) (by decide) rfl (fun ls hl => ?_)
  refine lv_goto (tgt := 10) hx hb dX8_isOrder_46 (by decide) ?_
  refine lv_iload hx hb dX8_isOrder_10 (lv_at hl 0 rfl) ?_
  refine lv_if_lt (tgt := 49) hx hb dX8_isOrder_12 (by decide) (fun c_3 => ?_) (fun c_3 => absurd c_3 (by decide))
  refine lv_iload hx hb dX8_isOrder_49 (lv_at hl 1 rfl) ?_
  refine lv_iconst (v := 1) hx hb dX8_isOrder_51 (by decide) ?_
  refine lv_iload_n hx hb dX8_isOrder_52 rfl (lv_at hl 5 rfl) ?_
  refine lv_ishl hx hb dX8_isOrder_53 ?_
  refine hs_topi 4 (by first | rfl | decide +kernel) ?_
  refine lv_iconst (v := 1) hx hb dX8_isOrder_54 (by decide) ?_
  refine lv_isub hx hb dX8_isOrder_55 ?_
  refine hs_topi 3 (by first | rfl | decide +kernel) ?_
  refine lv_icmp_ne (tgt := 63) hx hb dX8_isOrder_56 (by decide) (fun c_4 => absurd c_4 (by decide)) (fun c_4 => ?_)
  refine lv_iconst (v := 1) hx hb dX8_isOrder_59 (by decide) ?_
  refine lv_goto (tgt := 64) hx hb dX8_isOrder_60 (by decide) ?_
  exact hs_zret hx hb hr hlocks hK hP hD hS () [0, 1] rfl (by decide) dX8_isOrder_64 rfl (rfl)

set_option maxHeartbeats 4000000 in
set_option maxRecDepth 100000 in
theorem m_isOrder_2 (l : Launch) (D : va_G) (k : Nat → ClassId) (sz : Nat) (mo : Nat) (mo_st : Nat) (mo_at : Nat) (mo_isKept : Nat) (mo_people : Int32) (mo_halfMany : Int32) (mo_draft : Nat) (mo_dPeople : Int32) (mo_dHalves : Int32) (mo_toldLines : Int32) (mo_highest : Int32) (mo_tape : Nat) (mo_taped : Int32) (mo_pos : Int32) (mo_from : Int32) (mo_sort : Int32) (mo_value : Int32) (mo_fault : Int32) (mo_wrongAt : Int32) (mo_row : Nat) (mo_orderMany : Int32) (mo_firstOrder : Int32) (mo_lightest : Int32) (mo_heaviest : Int32) (mo_before : Nat) (mo_justSum : Int64) (mo_toldSum : Int64) (mo_allWays : Int64) (mo_lanes : Nat) (mo_sizes : Nat) (mo_cells : Nat) (mo_torn : Int32) (mo_had : Nat) (rf : Nat → Int32)  : MI l yX8_isOrder wsX8_isOrder ({ frames := 0, cells := 0, slots := 0, locals := 0 }) D k [.ref mo, .int 2, .int 2] [(mo, .inr (7, [.ref mo_st, .ref mo_at, .ref mo_isKept, .int mo_people, .int mo_halfMany, .ref mo_draft, .int mo_dPeople, .int mo_dHalves, .int mo_toldLines, .int mo_highest, .ref mo_tape, .int mo_taped, .int mo_pos, .int mo_from, .int mo_sort, .int mo_value, .int mo_fault, .int mo_wrongAt, .ref mo_row, .int mo_orderMany, .int mo_firstOrder, .int mo_lightest, .int mo_heaviest, .ref mo_before, .long mo_justSum, .long mo_toldSum, .long mo_allWays, .ref mo_lanes, .ref mo_sizes, .ref mo_cells, .int mo_torn, .ref mo_had])), (mo_row, .inl (k 0, 5, .inl (rf)))] sz (fun (r : Int32) (u : Unit) => r = 1) (fun (u : Unit) => [(mo, .inr (7, [.ref mo_st, .ref mo_at, .ref mo_isKept, .int mo_people, .int mo_halfMany, .ref mo_draft, .int mo_dPeople, .int mo_dHalves, .int mo_toldLines, .int mo_highest, .ref mo_tape, .int mo_taped, .int mo_pos, .int mo_from, .int mo_sort, .int mo_value, .int mo_fault, .int mo_wrongAt, .ref mo_row, .int mo_orderMany, .int mo_firstOrder, .int mo_lightest, .int mo_heaviest, .ref mo_before, .long mo_justSum, .long mo_toldSum, .long mo_allWays, .ref mo_lanes, .ref mo_sizes, .ref mo_cells, .int mo_torn, .ref mo_had])), (mo_row, .inl (k 0, 5, .inl (upd (upd rf 1 0) 0 1)))]) := by
  refine Met.ofW (cc := cX8_isOrder) (maxL := 6) (ret := (some .boolean)) (by decide) rfl ?_
  intro p e s m args below meth c s₁ B hml hv
  obtain ⟨rfl, hsz, hP, hK, hD0, hN⟩ := hv
  have hx := B.exec
  have hb := B.bytes
  have hr := B.returns
  have hlocks := B.notSynchronized
  have hts := atoms_spec (ws := wsX8_isOrder) B.pre
  have hown : s.vm.findClass RX8 = some m.cls := findClass_of_methodNamed B.named
  have hiX8 : ∀ w ∈ u_ws RX8 TX8 32, w ∈ wsX8_isOrder := by decide +kernel
  have fl26 := hts (.fieldLink RX8 26 "HalfScalesModel" "row" "[I") (by decide +kernel)
  subst hsz
  have hD := hD0.self (sz := s.heap.size)
  generalize hAe : va_A [(mo, .inr (7, [.ref mo_st, .ref mo_at, .ref mo_isKept, .int mo_people, .int mo_halfMany, .ref mo_draft, .int mo_dPeople, .int mo_dHalves, .int mo_toldLines, .int mo_highest, .ref mo_tape, .int mo_taped, .int mo_pos, .int mo_from, .int mo_sort, .int mo_value, .int mo_fault, .int mo_wrongAt, .ref mo_row, .int mo_orderMany, .int mo_firstOrder, .int mo_lightest, .int mo_heaviest, .ref mo_before, .long mo_justSum, .long mo_toldSum, .long mo_allWays, .ref mo_lanes, .ref mo_sizes, .ref mo_cells, .int mo_torn, .ref mo_had])), (mo_row, .inl (k 0, 5, .inl (rf)))] s.heap.size = A at hD ⊢
  have hA : ∀ q : Nat, s.heap.size ≤ q → A q := fun q h => by rw [← hAe]; exact Or.inr h
  have hS : va_S A s.heap s.heap [] := va_S.rf
  have hl := lv_entry ([.ref mo, .int 2, .int 2]) (n := 6) (Nat.le_of_ble_eq_true rfl)
  rw [lg_entry_eq]
  generalize (lg_sl ([.ref mo, .int 2, .int 2]) ++ List.replicate (6 - (lg_sl ([.ref mo, .int 2, .int 2])).length) Slot.unset).toArray = ls at hl ⊢
  have hl : lv_has ls 6 [(0, .ref mo), (1, .int 2), (2, .int 2)] := hl
  have hP : va_P D vwCl [(mo, .inr (7, [.ref mo_st, .ref mo_at, .ref mo_isKept, .int mo_people, .int mo_halfMany, .ref mo_draft, .int mo_dPeople, .int mo_dHalves, .int mo_toldLines, .int mo_highest, .ref mo_tape, .int mo_taped, .int mo_pos, .int mo_from, .int mo_sort, .int mo_value, .int mo_fault, .int mo_wrongAt, .ref mo_row, .int mo_orderMany, .int mo_firstOrder, .int mo_lightest, .int mo_heaviest, .ref mo_before, .long mo_justSum, .long mo_toldSum, .long mo_allWays, .ref mo_lanes, .ref mo_sizes, .ref mo_cells, .int mo_torn, .ref mo_had])), (mo_row, .inl (k 0, 5, .inl (rf)))] s.heap := hP
  refine lv_iload_n hx hb dX8_isOrder_0 rfl (lv_at hl 1 rfl) ?_
  refine lv_istore_n (lv' := [(3, .int 2), (0, .ref mo), (1, .int 2), (2, .int 2)]) hx hb dX8_isOrder_1 rfl hl (by decide) rfl (fun ls hl => ?_)
  refine lv_iconst (v := 0) hx hb dX8_isOrder_2 (by decide) ?_
  refine lv_istore (lv' := [(4, .int 0), (3, .int 2), (0, .ref mo), (1, .int 2), (2, .int 2)]) hx hb dX8_isOrder_3 hl (by decide) rfl (fun ls hl => ?_)
  refine lv_iload_n hx hb dX8_isOrder_5 rfl (lv_at hl 4 rfl) ?_
  refine lv_iconst (v := 1) hx hb dX8_isOrder_6 (by decide) ?_
  refine lv_isub hx hb dX8_isOrder_7 ?_
  refine hs_topi 1 (by first | rfl | decide +kernel) ?_
  refine lv_istore (lv' := [(5, .int 1), (4, .int 0), (3, .int 2), (0, .ref mo), (1, .int 2), (2, .int 2)]) hx hb dX8_isOrder_8 hl (by decide) rfl (fun ls hl => ?_)
  refine lv_iload hx hb dX8_isOrder_10 (lv_at hl 0 rfl) ?_
  refine lv_if_lt (tgt := 49) hx hb dX8_isOrder_12 (by decide) (fun c_1 => absurd c_1 (by decide)) (fun c_1 => ?_)
  refine lv_aload_n hx hb dX8_isOrder_15 rfl (lv_at hl 3 rfl) ?_
  refine va_get (D := D) (ci := 7) (v := .ref mo_row) (C := RX8) (T := TX8) (N := 32) hx hb hts hiX8 hown hK hP 0 rfl rfl 18 (by decide) fl26 (fun _ h9 => h9) rfl dX8_isOrder_16 ?_
  refine lv_iload hx hb dX8_isOrder_19 (lv_at hl 0 rfl) ?_
  refine lv_iload_n hx hb dX8_isOrder_21 rfl (lv_at hl 2 rfl) ?_
  refine lv_iload_n hx hb dX8_isOrder_22 rfl (lv_at hl 5 rfl) ?_
  refine lv_irem hx hb dX8_isOrder_23 (by decide) ?_
  refine hs_topi 0 (by first | rfl | decide +kernel) ?_
  refine va_iast hx hb hK hP hD hS 1 0 rfl rfl (hs_in (by decide)) dX8_isOrder_24 (fun H locs hP hD hS => ?_)
  have hP : va_P D vwCl [(mo, .inr (7, [.ref mo_st, .ref mo_at, .ref mo_isKept, .int mo_people, .int mo_halfMany, .ref mo_draft, .int mo_dPeople, .int mo_dHalves, .int mo_toldLines, .int mo_highest, .ref mo_tape, .int mo_taped, .int mo_pos, .int mo_from, .int mo_sort, .int mo_value, .int mo_fault, .int mo_wrongAt, .ref mo_row, .int mo_orderMany, .int mo_firstOrder, .int mo_lightest, .int mo_heaviest, .ref mo_before, .long mo_justSum, .long mo_toldSum, .long mo_allWays, .ref mo_lanes, .ref mo_sizes, .ref mo_cells, .int mo_torn, .ref mo_had])), (mo_row, .inl (k 0, 5, .inl (upd rf 1 0)))] H := hP
  have hD : va_D A [(mo, .inr (7, [.ref mo_st, .ref mo_at, .ref mo_isKept, .int mo_people, .int mo_halfMany, .ref mo_draft, .int mo_dPeople, .int mo_dHalves, .int mo_toldLines, .int mo_highest, .ref mo_tape, .int mo_taped, .int mo_pos, .int mo_from, .int mo_sort, .int mo_value, .int mo_fault, .int mo_wrongAt, .ref mo_row, .int mo_orderMany, .int mo_firstOrder, .int mo_lightest, .int mo_heaviest, .ref mo_before, .long mo_justSum, .long mo_toldSum, .long mo_allWays, .ref mo_lanes, .ref mo_sizes, .ref mo_cells, .int mo_torn, .ref mo_had])), (mo_row, .inl (k 0, 5, .inl (upd rf 1 0)))] := hD
  refine lv_iload_n hx hb dX8_isOrder_25 rfl (lv_at hl 2 rfl) ?_
  refine lv_iload_n hx hb dX8_isOrder_26 rfl (lv_at hl 5 rfl) ?_
  refine lv_idiv hx hb dX8_isOrder_27 (by decide) ?_
  refine hs_topi 1 (by first | rfl | decide +kernel) ?_
  refine lv_istore_n (lv' := [(3, .int 1), (5, .int 1), (4, .int 0), (0, .ref mo), (1, .int 2), (2, .int 2)]) hx hb dX8_isOrder_28 rfl hl (by decide) rfl (fun ls hl => ?_)
  refine lv_iload hx hb dX8_isOrder_29 (lv_at hl 2 rfl) ?_
  refine lv_iconst (v := 1) hx hb dX8_isOrder_31 (by decide) ?_
  refine lv_aload_n hx hb dX8_isOrder_32 rfl (lv_at hl 3 rfl) ?_
  refine va_get (D := D) (ci := 7) (v := .ref mo_row) (C := RX8) (T := TX8) (N := 32) hx hb hts hiX8 hown hK hP 0 rfl rfl 18 (by decide) fl26 (fun _ h9 => h9) rfl dX8_isOrder_33 ?_
  refine lv_iload hx hb dX8_isOrder_36 (lv_at hl 1 rfl) ?_
  refine va_iald hx hb hK hP 1 0 rfl rfl (hs_in (by decide)) dX8_isOrder_38 ?_
  refine hs_topi 0 (by first | rfl | decide +kernel) ?_
  refine lv_ishl hx hb dX8_isOrder_39 ?_
  refine hs_topi 1 (by first | rfl | decide +kernel) ?_
  refine lv_ior hx hb dX8_isOrder_40 ?_
  refine hs_topi 1 (by first | rfl | decide +kernel) ?_
  refine lv_istore (lv' := [(4, .int 1), (3, .int 1), (5, .int 1), (0, .ref mo), (1, .int 2), (2, .int 2)]) hx hb dX8_isOrder_41 hl (by decide) rfl (fun ls hl => ?_)
  refine lv_iinc (v := 0) (lv' := [(5, .int 0), (4, .int 1), (3, .int 1), (0, .ref mo), (1, .int 2), (2, .int 2)]) hx hb dX8_isOrder_43 hl (k := 2) rfl (by decide) (by decide) rfl (fun ls hl => ?_)
  refine lv_goto (tgt := 10) hx hb dX8_isOrder_46 (by decide) ?_
  refine lv_iload hx hb dX8_isOrder_10 (lv_at hl 0 rfl) ?_
  refine lv_if_lt (tgt := 49) hx hb dX8_isOrder_12 (by decide) (fun c_2 => absurd c_2 (by decide)) (fun c_2 => ?_)
  refine lv_aload_n hx hb dX8_isOrder_15 rfl (lv_at hl 3 rfl) ?_
  refine va_get (D := D) (ci := 7) (v := .ref mo_row) (C := RX8) (T := TX8) (N := 32) hx hb hts hiX8 hown hK hP 0 rfl rfl 18 (by decide) fl26 (fun _ h9 => h9) rfl dX8_isOrder_16 ?_
  refine lv_iload hx hb dX8_isOrder_19 (lv_at hl 0 rfl) ?_
  refine lv_iload_n hx hb dX8_isOrder_21 rfl (lv_at hl 2 rfl) ?_
  refine lv_iload_n hx hb dX8_isOrder_22 rfl (lv_at hl 5 rfl) ?_
  refine lv_irem hx hb dX8_isOrder_23 (by decide) ?_
  refine hs_topi 1 (by first | rfl | decide +kernel) ?_
  refine va_iast hx hb hK hP hD hS 1 0 rfl rfl (hs_in (by decide)) dX8_isOrder_24 (fun H locs hP hD hS => ?_)
  have hP : va_P D vwCl [(mo, .inr (7, [.ref mo_st, .ref mo_at, .ref mo_isKept, .int mo_people, .int mo_halfMany, .ref mo_draft, .int mo_dPeople, .int mo_dHalves, .int mo_toldLines, .int mo_highest, .ref mo_tape, .int mo_taped, .int mo_pos, .int mo_from, .int mo_sort, .int mo_value, .int mo_fault, .int mo_wrongAt, .ref mo_row, .int mo_orderMany, .int mo_firstOrder, .int mo_lightest, .int mo_heaviest, .ref mo_before, .long mo_justSum, .long mo_toldSum, .long mo_allWays, .ref mo_lanes, .ref mo_sizes, .ref mo_cells, .int mo_torn, .ref mo_had])), (mo_row, .inl (k 0, 5, .inl (upd (upd rf 1 0) 0 1)))] H := hP
  have hD : va_D A [(mo, .inr (7, [.ref mo_st, .ref mo_at, .ref mo_isKept, .int mo_people, .int mo_halfMany, .ref mo_draft, .int mo_dPeople, .int mo_dHalves, .int mo_toldLines, .int mo_highest, .ref mo_tape, .int mo_taped, .int mo_pos, .int mo_from, .int mo_sort, .int mo_value, .int mo_fault, .int mo_wrongAt, .ref mo_row, .int mo_orderMany, .int mo_firstOrder, .int mo_lightest, .int mo_heaviest, .ref mo_before, .long mo_justSum, .long mo_toldSum, .long mo_allWays, .ref mo_lanes, .ref mo_sizes, .ref mo_cells, .int mo_torn, .ref mo_had])), (mo_row, .inl (k 0, 5, .inl (upd (upd rf 1 0) 0 1)))] := hD
  refine lv_iload_n hx hb dX8_isOrder_25 rfl (lv_at hl 2 rfl) ?_
  refine lv_iload_n hx hb dX8_isOrder_26 rfl (lv_at hl 5 rfl) ?_
  refine lv_idiv hx hb dX8_isOrder_27 (by decide) ?_
  refine hs_topi 0 (by first | rfl | decide +kernel) ?_
  refine lv_istore_n (lv' := [(3, .int 0), (5, .int 0), (4, .int 1), (0, .ref mo), (1, .int 2), (2, .int 2)]) hx hb dX8_isOrder_28 rfl hl (by decide) rfl (fun ls hl => ?_)
  refine lv_iload hx hb dX8_isOrder_29 (lv_at hl 2 rfl) ?_
  refine lv_iconst (v := 1) hx hb dX8_isOrder_31 (by decide) ?_
  refine lv_aload_n hx hb dX8_isOrder_32 rfl (lv_at hl 3 rfl) ?_
  refine va_get (D := D) (ci := 7) (v := .ref mo_row) (C := RX8) (T := TX8) (N := 32) hx hb hts hiX8 hown hK hP 0 rfl rfl 18 (by decide) fl26 (fun _ h9 => h9) rfl dX8_isOrder_33 ?_
  refine lv_iload hx hb dX8_isOrder_36 (lv_at hl 1 rfl) ?_
  refine va_iald hx hb hK hP 1 0 rfl rfl (hs_in (by decide)) dX8_isOrder_38 ?_
  refine hs_topi 1 (by first | rfl | decide +kernel) ?_
  refine lv_ishl hx hb dX8_isOrder_39 ?_
  refine hs_topi 2 (by first | rfl | decide +kernel) ?_
  refine lv_ior hx hb dX8_isOrder_40 ?_
  refine hs_topi 3 (by first | rfl | decide +kernel) ?_
  refine lv_istore (lv' := [(4, .int 3), (3, .int 0), (5, .int 0), (0, .ref mo), (1, .int 2), (2, .int 2)]) hx hb dX8_isOrder_41 hl (by decide) rfl (fun ls hl => ?_)
  refine lv_iinc (v := (-1)) (lv' := [(5, .int (-1)), (4, .int 3), (3, .int 0), (0, .ref mo), (1, .int 2), (2, .int 2)]) hx hb dX8_isOrder_43 hl (k := 2) rfl (by decide) (by decide) rfl (fun ls hl => ?_)
  refine lv_goto (tgt := 10) hx hb dX8_isOrder_46 (by decide) ?_
  refine lv_iload hx hb dX8_isOrder_10 (lv_at hl 0 rfl) ?_
  refine lv_if_lt (tgt := 49) hx hb dX8_isOrder_12 (by decide) (fun c_3 => ?_) (fun c_3 => absurd c_3 (by decide))
  refine lv_iload hx hb dX8_isOrder_49 (lv_at hl 1 rfl) ?_
  refine lv_iconst (v := 1) hx hb dX8_isOrder_51 (by decide) ?_
  refine lv_iload_n hx hb dX8_isOrder_52 rfl (lv_at hl 5 rfl) ?_
  refine lv_ishl hx hb dX8_isOrder_53 ?_
  refine hs_topi 4 (by first | rfl | decide +kernel) ?_
  refine lv_iconst (v := 1) hx hb dX8_isOrder_54 (by decide) ?_
  refine lv_isub hx hb dX8_isOrder_55 ?_
  refine hs_topi 3 (by first | rfl | decide +kernel) ?_
  refine lv_icmp_ne (tgt := 63) hx hb dX8_isOrder_56 (by decide) (fun c_4 => absurd c_4 (by decide)) (fun c_4 => ?_)
  refine lv_iconst (v := 1) hx hb dX8_isOrder_59 (by decide) ?_
  refine lv_goto (tgt := 64) hx hb dX8_isOrder_60 (by decide) ?_
  exact hs_zret hx hb hr hlocks hK hP hD hS () [0, 1] rfl (by decide) dX8_isOrder_64 rfl (rfl)

set_option maxHeartbeats 4000000 in
set_option maxRecDepth 100000 in
theorem m_isOrder_3 (l : Launch) (D : va_G) (k : Nat → ClassId) (sz : Nat) (mo : Nat) (mo_st : Nat) (mo_at : Nat) (mo_isKept : Nat) (mo_people : Int32) (mo_halfMany : Int32) (mo_draft : Nat) (mo_dPeople : Int32) (mo_dHalves : Int32) (mo_toldLines : Int32) (mo_highest : Int32) (mo_tape : Nat) (mo_taped : Int32) (mo_pos : Int32) (mo_from : Int32) (mo_sort : Int32) (mo_value : Int32) (mo_fault : Int32) (mo_wrongAt : Int32) (mo_row : Nat) (mo_orderMany : Int32) (mo_firstOrder : Int32) (mo_lightest : Int32) (mo_heaviest : Int32) (mo_before : Nat) (mo_justSum : Int64) (mo_toldSum : Int64) (mo_allWays : Int64) (mo_lanes : Nat) (mo_sizes : Nat) (mo_cells : Nat) (mo_torn : Int32) (mo_had : Nat) (rf : Nat → Int32)  : MI l yX8_isOrder wsX8_isOrder ({ frames := 0, cells := 0, slots := 0, locals := 0 }) D k [.ref mo, .int 3, .int 2] [(mo, .inr (7, [.ref mo_st, .ref mo_at, .ref mo_isKept, .int mo_people, .int mo_halfMany, .ref mo_draft, .int mo_dPeople, .int mo_dHalves, .int mo_toldLines, .int mo_highest, .ref mo_tape, .int mo_taped, .int mo_pos, .int mo_from, .int mo_sort, .int mo_value, .int mo_fault, .int mo_wrongAt, .ref mo_row, .int mo_orderMany, .int mo_firstOrder, .int mo_lightest, .int mo_heaviest, .ref mo_before, .long mo_justSum, .long mo_toldSum, .long mo_allWays, .ref mo_lanes, .ref mo_sizes, .ref mo_cells, .int mo_torn, .ref mo_had])), (mo_row, .inl (k 0, 5, .inl (rf)))] sz (fun (r : Int32) (u : Unit) => r = 0) (fun (u : Unit) => [(mo, .inr (7, [.ref mo_st, .ref mo_at, .ref mo_isKept, .int mo_people, .int mo_halfMany, .ref mo_draft, .int mo_dPeople, .int mo_dHalves, .int mo_toldLines, .int mo_highest, .ref mo_tape, .int mo_taped, .int mo_pos, .int mo_from, .int mo_sort, .int mo_value, .int mo_fault, .int mo_wrongAt, .ref mo_row, .int mo_orderMany, .int mo_firstOrder, .int mo_lightest, .int mo_heaviest, .ref mo_before, .long mo_justSum, .long mo_toldSum, .long mo_allWays, .ref mo_lanes, .ref mo_sizes, .ref mo_cells, .int mo_torn, .ref mo_had])), (mo_row, .inl (k 0, 5, .inl (upd (upd rf 1 1) 0 1)))]) := by
  refine Met.ofW (cc := cX8_isOrder) (maxL := 6) (ret := (some .boolean)) (by decide) rfl ?_
  intro p e s m args below meth c s₁ B hml hv
  obtain ⟨rfl, hsz, hP, hK, hD0, hN⟩ := hv
  have hx := B.exec
  have hb := B.bytes
  have hr := B.returns
  have hlocks := B.notSynchronized
  have hts := atoms_spec (ws := wsX8_isOrder) B.pre
  have hown : s.vm.findClass RX8 = some m.cls := findClass_of_methodNamed B.named
  have hiX8 : ∀ w ∈ u_ws RX8 TX8 32, w ∈ wsX8_isOrder := by decide +kernel
  have fl26 := hts (.fieldLink RX8 26 "HalfScalesModel" "row" "[I") (by decide +kernel)
  subst hsz
  have hD := hD0.self (sz := s.heap.size)
  generalize hAe : va_A [(mo, .inr (7, [.ref mo_st, .ref mo_at, .ref mo_isKept, .int mo_people, .int mo_halfMany, .ref mo_draft, .int mo_dPeople, .int mo_dHalves, .int mo_toldLines, .int mo_highest, .ref mo_tape, .int mo_taped, .int mo_pos, .int mo_from, .int mo_sort, .int mo_value, .int mo_fault, .int mo_wrongAt, .ref mo_row, .int mo_orderMany, .int mo_firstOrder, .int mo_lightest, .int mo_heaviest, .ref mo_before, .long mo_justSum, .long mo_toldSum, .long mo_allWays, .ref mo_lanes, .ref mo_sizes, .ref mo_cells, .int mo_torn, .ref mo_had])), (mo_row, .inl (k 0, 5, .inl (rf)))] s.heap.size = A at hD ⊢
  have hA : ∀ q : Nat, s.heap.size ≤ q → A q := fun q h => by rw [← hAe]; exact Or.inr h
  have hS : va_S A s.heap s.heap [] := va_S.rf
  have hl := lv_entry ([.ref mo, .int 3, .int 2]) (n := 6) (Nat.le_of_ble_eq_true rfl)
  rw [lg_entry_eq]
  generalize (lg_sl ([.ref mo, .int 3, .int 2]) ++ List.replicate (6 - (lg_sl ([.ref mo, .int 3, .int 2])).length) Slot.unset).toArray = ls at hl ⊢
  have hl : lv_has ls 6 [(0, .ref mo), (1, .int 3), (2, .int 2)] := hl
  have hP : va_P D vwCl [(mo, .inr (7, [.ref mo_st, .ref mo_at, .ref mo_isKept, .int mo_people, .int mo_halfMany, .ref mo_draft, .int mo_dPeople, .int mo_dHalves, .int mo_toldLines, .int mo_highest, .ref mo_tape, .int mo_taped, .int mo_pos, .int mo_from, .int mo_sort, .int mo_value, .int mo_fault, .int mo_wrongAt, .ref mo_row, .int mo_orderMany, .int mo_firstOrder, .int mo_lightest, .int mo_heaviest, .ref mo_before, .long mo_justSum, .long mo_toldSum, .long mo_allWays, .ref mo_lanes, .ref mo_sizes, .ref mo_cells, .int mo_torn, .ref mo_had])), (mo_row, .inl (k 0, 5, .inl (rf)))] s.heap := hP
  refine lv_iload_n hx hb dX8_isOrder_0 rfl (lv_at hl 1 rfl) ?_
  refine lv_istore_n (lv' := [(3, .int 3), (0, .ref mo), (1, .int 3), (2, .int 2)]) hx hb dX8_isOrder_1 rfl hl (by decide) rfl (fun ls hl => ?_)
  refine lv_iconst (v := 0) hx hb dX8_isOrder_2 (by decide) ?_
  refine lv_istore (lv' := [(4, .int 0), (3, .int 3), (0, .ref mo), (1, .int 3), (2, .int 2)]) hx hb dX8_isOrder_3 hl (by decide) rfl (fun ls hl => ?_)
  refine lv_iload_n hx hb dX8_isOrder_5 rfl (lv_at hl 4 rfl) ?_
  refine lv_iconst (v := 1) hx hb dX8_isOrder_6 (by decide) ?_
  refine lv_isub hx hb dX8_isOrder_7 ?_
  refine hs_topi 1 (by first | rfl | decide +kernel) ?_
  refine lv_istore (lv' := [(5, .int 1), (4, .int 0), (3, .int 3), (0, .ref mo), (1, .int 3), (2, .int 2)]) hx hb dX8_isOrder_8 hl (by decide) rfl (fun ls hl => ?_)
  refine lv_iload hx hb dX8_isOrder_10 (lv_at hl 0 rfl) ?_
  refine lv_if_lt (tgt := 49) hx hb dX8_isOrder_12 (by decide) (fun c_1 => absurd c_1 (by decide)) (fun c_1 => ?_)
  refine lv_aload_n hx hb dX8_isOrder_15 rfl (lv_at hl 3 rfl) ?_
  refine va_get (D := D) (ci := 7) (v := .ref mo_row) (C := RX8) (T := TX8) (N := 32) hx hb hts hiX8 hown hK hP 0 rfl rfl 18 (by decide) fl26 (fun _ h9 => h9) rfl dX8_isOrder_16 ?_
  refine lv_iload hx hb dX8_isOrder_19 (lv_at hl 0 rfl) ?_
  refine lv_iload_n hx hb dX8_isOrder_21 rfl (lv_at hl 2 rfl) ?_
  refine lv_iload_n hx hb dX8_isOrder_22 rfl (lv_at hl 5 rfl) ?_
  refine lv_irem hx hb dX8_isOrder_23 (by decide) ?_
  refine hs_topi 1 (by first | rfl | decide +kernel) ?_
  refine va_iast hx hb hK hP hD hS 1 0 rfl rfl (hs_in (by decide)) dX8_isOrder_24 (fun H locs hP hD hS => ?_)
  have hP : va_P D vwCl [(mo, .inr (7, [.ref mo_st, .ref mo_at, .ref mo_isKept, .int mo_people, .int mo_halfMany, .ref mo_draft, .int mo_dPeople, .int mo_dHalves, .int mo_toldLines, .int mo_highest, .ref mo_tape, .int mo_taped, .int mo_pos, .int mo_from, .int mo_sort, .int mo_value, .int mo_fault, .int mo_wrongAt, .ref mo_row, .int mo_orderMany, .int mo_firstOrder, .int mo_lightest, .int mo_heaviest, .ref mo_before, .long mo_justSum, .long mo_toldSum, .long mo_allWays, .ref mo_lanes, .ref mo_sizes, .ref mo_cells, .int mo_torn, .ref mo_had])), (mo_row, .inl (k 0, 5, .inl (upd rf 1 1)))] H := hP
  have hD : va_D A [(mo, .inr (7, [.ref mo_st, .ref mo_at, .ref mo_isKept, .int mo_people, .int mo_halfMany, .ref mo_draft, .int mo_dPeople, .int mo_dHalves, .int mo_toldLines, .int mo_highest, .ref mo_tape, .int mo_taped, .int mo_pos, .int mo_from, .int mo_sort, .int mo_value, .int mo_fault, .int mo_wrongAt, .ref mo_row, .int mo_orderMany, .int mo_firstOrder, .int mo_lightest, .int mo_heaviest, .ref mo_before, .long mo_justSum, .long mo_toldSum, .long mo_allWays, .ref mo_lanes, .ref mo_sizes, .ref mo_cells, .int mo_torn, .ref mo_had])), (mo_row, .inl (k 0, 5, .inl (upd rf 1 1)))] := hD
  refine lv_iload_n hx hb dX8_isOrder_25 rfl (lv_at hl 2 rfl) ?_
  refine lv_iload_n hx hb dX8_isOrder_26 rfl (lv_at hl 5 rfl) ?_
  refine lv_idiv hx hb dX8_isOrder_27 (by decide) ?_
  refine hs_topi 1 (by first | rfl | decide +kernel) ?_
  refine lv_istore_n (lv' := [(3, .int 1), (5, .int 1), (4, .int 0), (0, .ref mo), (1, .int 3), (2, .int 2)]) hx hb dX8_isOrder_28 rfl hl (by decide) rfl (fun ls hl => ?_)
  refine lv_iload hx hb dX8_isOrder_29 (lv_at hl 2 rfl) ?_
  refine lv_iconst (v := 1) hx hb dX8_isOrder_31 (by decide) ?_
  refine lv_aload_n hx hb dX8_isOrder_32 rfl (lv_at hl 3 rfl) ?_
  refine va_get (D := D) (ci := 7) (v := .ref mo_row) (C := RX8) (T := TX8) (N := 32) hx hb hts hiX8 hown hK hP 0 rfl rfl 18 (by decide) fl26 (fun _ h9 => h9) rfl dX8_isOrder_33 ?_
  refine lv_iload hx hb dX8_isOrder_36 (lv_at hl 1 rfl) ?_
  refine va_iald hx hb hK hP 1 0 rfl rfl (hs_in (by decide)) dX8_isOrder_38 ?_
  refine hs_topi 1 (by first | rfl | decide +kernel) ?_
  refine lv_ishl hx hb dX8_isOrder_39 ?_
  refine hs_topi 2 (by first | rfl | decide +kernel) ?_
  refine lv_ior hx hb dX8_isOrder_40 ?_
  refine hs_topi 2 (by first | rfl | decide +kernel) ?_
  refine lv_istore (lv' := [(4, .int 2), (3, .int 1), (5, .int 1), (0, .ref mo), (1, .int 3), (2, .int 2)]) hx hb dX8_isOrder_41 hl (by decide) rfl (fun ls hl => ?_)
  refine lv_iinc (v := 0) (lv' := [(5, .int 0), (4, .int 2), (3, .int 1), (0, .ref mo), (1, .int 3), (2, .int 2)]) hx hb dX8_isOrder_43 hl (k := 2) rfl (by decide) (by decide) rfl (fun ls hl => ?_)
  refine lv_goto (tgt := 10) hx hb dX8_isOrder_46 (by decide) ?_
  refine lv_iload hx hb dX8_isOrder_10 (lv_at hl 0 rfl) ?_
  refine lv_if_lt (tgt := 49) hx hb dX8_isOrder_12 (by decide) (fun c_2 => absurd c_2 (by decide)) (fun c_2 => ?_)
  refine lv_aload_n hx hb dX8_isOrder_15 rfl (lv_at hl 3 rfl) ?_
  refine va_get (D := D) (ci := 7) (v := .ref mo_row) (C := RX8) (T := TX8) (N := 32) hx hb hts hiX8 hown hK hP 0 rfl rfl 18 (by decide) fl26 (fun _ h9 => h9) rfl dX8_isOrder_16 ?_
  refine lv_iload hx hb dX8_isOrder_19 (lv_at hl 0 rfl) ?_
  refine lv_iload_n hx hb dX8_isOrder_21 rfl (lv_at hl 2 rfl) ?_
  refine lv_iload_n hx hb dX8_isOrder_22 rfl (lv_at hl 5 rfl) ?_
  refine lv_irem hx hb dX8_isOrder_23 (by decide) ?_
  refine hs_topi 1 (by first | rfl | decide +kernel) ?_
  refine va_iast hx hb hK hP hD hS 1 0 rfl rfl (hs_in (by decide)) dX8_isOrder_24 (fun H locs hP hD hS => ?_)
  have hP : va_P D vwCl [(mo, .inr (7, [.ref mo_st, .ref mo_at, .ref mo_isKept, .int mo_people, .int mo_halfMany, .ref mo_draft, .int mo_dPeople, .int mo_dHalves, .int mo_toldLines, .int mo_highest, .ref mo_tape, .int mo_taped, .int mo_pos, .int mo_from, .int mo_sort, .int mo_value, .int mo_fault, .int mo_wrongAt, .ref mo_row, .int mo_orderMany, .int mo_firstOrder, .int mo_lightest, .int mo_heaviest, .ref mo_before, .long mo_justSum, .long mo_toldSum, .long mo_allWays, .ref mo_lanes, .ref mo_sizes, .ref mo_cells, .int mo_torn, .ref mo_had])), (mo_row, .inl (k 0, 5, .inl (upd (upd rf 1 1) 0 1)))] H := hP
  have hD : va_D A [(mo, .inr (7, [.ref mo_st, .ref mo_at, .ref mo_isKept, .int mo_people, .int mo_halfMany, .ref mo_draft, .int mo_dPeople, .int mo_dHalves, .int mo_toldLines, .int mo_highest, .ref mo_tape, .int mo_taped, .int mo_pos, .int mo_from, .int mo_sort, .int mo_value, .int mo_fault, .int mo_wrongAt, .ref mo_row, .int mo_orderMany, .int mo_firstOrder, .int mo_lightest, .int mo_heaviest, .ref mo_before, .long mo_justSum, .long mo_toldSum, .long mo_allWays, .ref mo_lanes, .ref mo_sizes, .ref mo_cells, .int mo_torn, .ref mo_had])), (mo_row, .inl (k 0, 5, .inl (upd (upd rf 1 1) 0 1)))] := hD
  refine lv_iload_n hx hb dX8_isOrder_25 rfl (lv_at hl 2 rfl) ?_
  refine lv_iload_n hx hb dX8_isOrder_26 rfl (lv_at hl 5 rfl) ?_
  refine lv_idiv hx hb dX8_isOrder_27 (by decide) ?_
  refine hs_topi 0 (by first | rfl | decide +kernel) ?_
  refine lv_istore_n (lv' := [(3, .int 0), (5, .int 0), (4, .int 2), (0, .ref mo), (1, .int 3), (2, .int 2)]) hx hb dX8_isOrder_28 rfl hl (by decide) rfl (fun ls hl => ?_)
  refine lv_iload hx hb dX8_isOrder_29 (lv_at hl 2 rfl) ?_
  refine lv_iconst (v := 1) hx hb dX8_isOrder_31 (by decide) ?_
  refine lv_aload_n hx hb dX8_isOrder_32 rfl (lv_at hl 3 rfl) ?_
  refine va_get (D := D) (ci := 7) (v := .ref mo_row) (C := RX8) (T := TX8) (N := 32) hx hb hts hiX8 hown hK hP 0 rfl rfl 18 (by decide) fl26 (fun _ h9 => h9) rfl dX8_isOrder_33 ?_
  refine lv_iload hx hb dX8_isOrder_36 (lv_at hl 1 rfl) ?_
  refine va_iald hx hb hK hP 1 0 rfl rfl (hs_in (by decide)) dX8_isOrder_38 ?_
  refine hs_topi 1 (by first | rfl | decide +kernel) ?_
  refine lv_ishl hx hb dX8_isOrder_39 ?_
  refine hs_topi 2 (by first | rfl | decide +kernel) ?_
  refine lv_ior hx hb dX8_isOrder_40 ?_
  refine hs_topi 2 (by first | rfl | decide +kernel) ?_
  refine lv_istore (lv' := [(4, .int 2), (3, .int 0), (5, .int 0), (0, .ref mo), (1, .int 3), (2, .int 2)]) hx hb dX8_isOrder_41 hl (by decide) rfl (fun ls hl => ?_)
  refine lv_iinc (v := (-1)) (lv' := [(5, .int (-1)), (4, .int 2), (3, .int 0), (0, .ref mo), (1, .int 3), (2, .int 2)]) hx hb dX8_isOrder_43 hl (k := 2) rfl (by decide) (by decide) rfl (fun ls hl => ?_)
  refine lv_goto (tgt := 10) hx hb dX8_isOrder_46 (by decide) ?_
  refine lv_iload hx hb dX8_isOrder_10 (lv_at hl 0 rfl) ?_
  refine lv_if_lt (tgt := 49) hx hb dX8_isOrder_12 (by decide) (fun c_3 => ?_) (fun c_3 => absurd c_3 (by decide))
  refine lv_iload hx hb dX8_isOrder_49 (lv_at hl 1 rfl) ?_
  refine lv_iconst (v := 1) hx hb dX8_isOrder_51 (by decide) ?_
  refine lv_iload_n hx hb dX8_isOrder_52 rfl (lv_at hl 5 rfl) ?_
  refine lv_ishl hx hb dX8_isOrder_53 ?_
  refine hs_topi 4 (by first | rfl | decide +kernel) ?_
  refine lv_iconst (v := 1) hx hb dX8_isOrder_54 (by decide) ?_
  refine lv_isub hx hb dX8_isOrder_55 ?_
  refine hs_topi 3 (by first | rfl | decide +kernel) ?_
  refine lv_icmp_ne (tgt := 63) hx hb dX8_isOrder_56 (by decide) (fun c_4 => ?_) (fun c_4 => absurd c_4 (by decide))
  refine lv_iconst (v := 0) hx hb dX8_isOrder_63 (by decide) ?_
  exact hs_zret hx hb hr hlocks hK hP hD hS () [0, 1] rfl (by decide) dX8_isOrder_64 rfl (rfl)

set_option maxHeartbeats 4000000 in
set_option maxRecDepth 100000 in
theorem m_isTold0 (l : Launch) (D : va_G) (k : Nat → ClassId) (sz : Nat) (mo : Nat) (mo_st : Nat) (mo_at : Nat) (mo_isKept : Nat) (mo_people : Int32) (mo_halfMany : Int32) (mo_draft : Nat) (mo_dPeople : Int32) (mo_dHalves : Int32) (mo_toldLines : Int32) (mo_highest : Int32) (mo_tape : Nat) (mo_taped : Int32) (mo_pos : Int32) (mo_from : Int32) (mo_sort : Int32) (mo_value : Int32) (mo_fault : Int32) (mo_wrongAt : Int32) (mo_row : Nat) (mo_orderMany : Int32) (mo_firstOrder : Int32) (mo_lightest : Int32) (mo_heaviest : Int32) (mo_before : Nat) (mo_justSum : Int64) (mo_toldSum : Int64) (mo_allWays : Int64) (mo_lanes : Nat) (mo_sizes : Nat) (mo_cells : Nat) (mo_torn : Int32) (mo_had : Nat)  : MI l yX8_isTold wsX8_isTold ({ frames := 0, cells := 0, slots := 0, locals := 0 }) D k [.ref mo, .int 2] [(mo, .inr (7, [.ref mo_st, .ref mo_at, .ref mo_isKept, .int mo_people, .int mo_halfMany, .ref mo_draft, .int mo_dPeople, .int mo_dHalves, .int mo_toldLines, .int mo_highest, .ref mo_tape, .int mo_taped, .int mo_pos, .int mo_from, .int mo_sort, .int mo_value, .int mo_fault, .int mo_wrongAt, .ref mo_row, .int mo_orderMany, .int mo_firstOrder, .int mo_lightest, .int mo_heaviest, .ref mo_before, .long mo_justSum, .long mo_toldSum, .long mo_allWays, .ref mo_lanes, .ref mo_sizes, .ref mo_cells, .int mo_torn, .ref mo_had])), (mo_at, .inl (k 0, 44, .inl (hst)))] sz (fun (r : Int32) (u : Unit) => r = 1) (fun (u : Unit) => [(mo, .inr (7, [.ref mo_st, .ref mo_at, .ref mo_isKept, .int mo_people, .int mo_halfMany, .ref mo_draft, .int mo_dPeople, .int mo_dHalves, .int mo_toldLines, .int mo_highest, .ref mo_tape, .int mo_taped, .int mo_pos, .int mo_from, .int mo_sort, .int mo_value, .int mo_fault, .int mo_wrongAt, .ref mo_row, .int mo_orderMany, .int mo_firstOrder, .int mo_lightest, .int mo_heaviest, .ref mo_before, .long mo_justSum, .long mo_toldSum, .long mo_allWays, .ref mo_lanes, .ref mo_sizes, .ref mo_cells, .int mo_torn, .ref mo_had])), (mo_at, .inl (k 0, 44, .inl (hst)))]) := by
  refine Met.ofW (cc := cX8_isTold) (maxL := 4) (ret := (some .boolean)) (by decide) rfl ?_
  intro p e s m args below meth c s₁ B hml hv
  obtain ⟨rfl, hsz, hP, hK, hD0, hN⟩ := hv
  have hx := B.exec
  have hb := B.bytes
  have hr := B.returns
  have hlocks := B.notSynchronized
  have hts := atoms_spec (ws := wsX8_isTold) B.pre
  have hown : s.vm.findClass RX8 = some m.cls := findClass_of_methodNamed B.named
  have hiX8 : ∀ w ∈ u_ws RX8 TX8 32, w ∈ wsX8_isTold := by decide +kernel
  have fl13 := hts (.fieldLink RX8 13 "HalfScalesModel" "at" "[I") (by decide +kernel)
  subst hsz
  have hD := hD0.self (sz := s.heap.size)
  generalize hAe : va_A [(mo, .inr (7, [.ref mo_st, .ref mo_at, .ref mo_isKept, .int mo_people, .int mo_halfMany, .ref mo_draft, .int mo_dPeople, .int mo_dHalves, .int mo_toldLines, .int mo_highest, .ref mo_tape, .int mo_taped, .int mo_pos, .int mo_from, .int mo_sort, .int mo_value, .int mo_fault, .int mo_wrongAt, .ref mo_row, .int mo_orderMany, .int mo_firstOrder, .int mo_lightest, .int mo_heaviest, .ref mo_before, .long mo_justSum, .long mo_toldSum, .long mo_allWays, .ref mo_lanes, .ref mo_sizes, .ref mo_cells, .int mo_torn, .ref mo_had])), (mo_at, .inl (k 0, 44, .inl (hst)))] s.heap.size = A at hD ⊢
  have hA : ∀ q : Nat, s.heap.size ≤ q → A q := fun q h => by rw [← hAe]; exact Or.inr h
  have hS : va_S A s.heap s.heap [] := va_S.rf
  have hl := lv_entry ([.ref mo, .int 2]) (n := 4) (Nat.le_of_ble_eq_true rfl)
  rw [lg_entry_eq]
  generalize (lg_sl ([.ref mo, .int 2]) ++ List.replicate (4 - (lg_sl ([.ref mo, .int 2])).length) Slot.unset).toArray = ls at hl ⊢
  have hl : lv_has ls 4 [(0, .ref mo), (1, .int 2)] := hl
  have hP : va_P D vwCl [(mo, .inr (7, [.ref mo_st, .ref mo_at, .ref mo_isKept, .int mo_people, .int mo_halfMany, .ref mo_draft, .int mo_dPeople, .int mo_dHalves, .int mo_toldLines, .int mo_highest, .ref mo_tape, .int mo_taped, .int mo_pos, .int mo_from, .int mo_sort, .int mo_value, .int mo_fault, .int mo_wrongAt, .ref mo_row, .int mo_orderMany, .int mo_firstOrder, .int mo_lightest, .int mo_heaviest, .ref mo_before, .long mo_justSum, .long mo_toldSum, .long mo_allWays, .ref mo_lanes, .ref mo_sizes, .ref mo_cells, .int mo_torn, .ref mo_had])), (mo_at, .inl (k 0, 44, .inl (hst)))] s.heap := hP
  refine lv_iconst (v := 1) hx hb dX8_isTold_0 (by decide) ?_
  refine lv_istore_n (lv' := [(2, .int 1), (0, .ref mo), (1, .int 2)]) hx hb dX8_isTold_1 rfl hl (by decide) rfl (fun ls hl => ?_)
  refine lv_iconst (v := 0) hx hb dX8_isTold_2 (by decide) ?_
  refine lv_istore_n (lv' := [(3, .int 0), (2, .int 1), (0, .ref mo), (1, .int 2)]) hx hb dX8_isTold_3 rfl hl (by decide) rfl (fun ls hl => ?_)
  refine lv_iload_n hx hb dX8_isTold_4 rfl (lv_at hl 0 rfl) ?_
  refine lv_aload_n hx hb dX8_isTold_5 rfl (lv_at hl 2 rfl) ?_
  refine va_get (D := D) (ci := 7) (v := .ref mo_at) (C := RX8) (T := TX8) (N := 32) hx hb hts hiX8 hown hK hP 0 rfl rfl 1 (by decide) fl13 (fun _ h9 => h9) rfl dX8_isTold_6 ?_
  refine lv_bipush (v := 16) hx hb dX8_isTold_9 (by decide) ?_
  refine va_iald hx hb hK hP 1 0 rfl rfl (hs_in (by decide)) dX8_isTold_11 ?_
  refine hs_topi 0 (by first | rfl | decide +kernel) ?_
  refine lv_icmp_ge (tgt := 68) hx hb dX8_isTold_12 (by decide) (fun c_1 => ?_) (fun c_1 => absurd c_1 (by decide))
  refine lv_iload_n hx hb dX8_isTold_68 rfl (lv_at hl 1 rfl) ?_
  exact hs_zret hx hb hr hlocks hK hP hD hS () [0, 1] rfl (by decide) dX8_isTold_69 rfl (rfl)

set_option maxHeartbeats 4000000 in
set_option maxRecDepth 100000 in
theorem m_findOrders0 (l : Launch) (D : va_G) (k : Nat → ClassId) (sz : Nat) (mo : Nat) (mo_st : Nat) (mo_at : Nat) (mo_isKept : Nat) (mo_people : Int32) (mo_halfMany : Int32) (mo_draft : Nat) (mo_dPeople : Int32) (mo_dHalves : Int32) (mo_toldLines : Int32) (mo_highest : Int32) (mo_tape : Nat) (mo_taped : Int32) (mo_pos : Int32) (mo_from : Int32) (mo_sort : Int32) (mo_value : Int32) (mo_fault : Int32) (mo_wrongAt : Int32) (mo_row : Nat) (mo_orderMany : Int32) (mo_firstOrder : Int32) (mo_lightest : Int32) (mo_heaviest : Int32) (mo_before : Nat) (mo_justSum : Int64) (mo_toldSum : Int64) (mo_allWays : Int64) (mo_lanes : Nat) (mo_sizes : Nat) (mo_cells : Nat) (mo_torn : Int32) (mo_had : Nat)  : MV l yX8_findOrders wsX8_findOrders ({ frames := 1, cells := 0, slots := 0, locals := 25 }) D k [.ref mo, .int 2] [(mo, .inr (7, [.ref mo_st, .ref mo_at, .ref mo_isKept, .int mo_people, .int mo_halfMany, .ref mo_draft, .int mo_dPeople, .int mo_dHalves, .int mo_toldLines, .int mo_highest, .ref mo_tape, .int mo_taped, .int mo_pos, .int mo_from, .int mo_sort, .int mo_value, .int mo_fault, .int mo_wrongAt, .ref mo_row, .int mo_orderMany, .int mo_firstOrder, .int mo_lightest, .int mo_heaviest, .ref mo_before, .long mo_justSum, .long mo_toldSum, .long mo_allWays, .ref mo_lanes, .ref mo_sizes, .ref mo_cells, .int mo_torn, .ref mo_had])), (mo_at, .inl (k 0, 44, .inl (hst))), (mo_row, .inl (k 0, 5, .inl (hsz))), (mo_before, .inl (k 0, 25, .inl (hsz)))] sz (fun (u : Unit) => True) (fun (u : Unit) => [(mo, .inr (7, [.ref mo_st, .ref mo_at, .ref mo_isKept, .int mo_people, .int mo_halfMany, .ref mo_draft, .int mo_dPeople, .int mo_dHalves, .int mo_toldLines, .int mo_highest, .ref mo_tape, .int mo_taped, .int mo_pos, .int mo_from, .int mo_sort, .int mo_value, .int mo_fault, .int mo_wrongAt, .ref mo_row, .int 2, .int 1, .int 3, .int 3, .ref mo_before, .long mo_justSum, .long mo_toldSum, .long mo_allWays, .ref mo_lanes, .ref mo_sizes, .ref mo_cells, .int mo_torn, .ref mo_had])), (mo_at, .inl (k 0, 44, .inl (hst))), (mo_row, .inl (k 0, 5, .inl (upd (upd (upd (upd (upd (upd (upd (upd hsz 1 0) 0 0) 1 1) 0 0) 1 0) 0 1) 1 1) 0 1))), (mo_before, .inl (k 0, 25, .inl (upd (upd hsz 1 1) 5 1)))]) := by
  refine Met.ofW (cc := cX8_findOrders) (maxL := 5) (ret := none) (by decide) rfl ?_
  intro p e s m args below meth c s₁ B hml hv
  obtain ⟨rfl, hsz, hP, hK, hD0, hN⟩ := hv
  have hx := B.exec
  have hb := B.bytes
  have hr := B.returns
  have hlocks := B.notSynchronized
  have hts := atoms_spec (ws := wsX8_findOrders) B.pre
  have hown : s.vm.findClass RX8 = some m.cls := findClass_of_methodNamed B.named
  have hiX8 : ∀ w ∈ u_ws RX8 TX8 32, w ∈ wsX8_findOrders := by decide +kernel
  have fl149 := hts (.fieldLink RX8 149 "HalfScalesModel" "orderMany" "I") (by decide +kernel)
  have fl204 := hts (.fieldLink RX8 204 "HalfScalesModel" "firstOrder" "I") (by decide +kernel)
  have fl207 := hts (.fieldLink RX8 207 "HalfScalesModel" "lightest" "I") (by decide +kernel)
  have fl210 := hts (.fieldLink RX8 210 "HalfScalesModel" "heaviest" "I") (by decide +kernel)
  have fl29 := hts (.fieldLink RX8 29 "HalfScalesModel" "before" "[I") (by decide +kernel)
  have fl26 := hts (.fieldLink RX8 26 "HalfScalesModel" "row" "[I") (by decide +kernel)
  subst hsz
  have hD := hD0.self (sz := s.heap.size)
  generalize hAe : va_A [(mo, .inr (7, [.ref mo_st, .ref mo_at, .ref mo_isKept, .int mo_people, .int mo_halfMany, .ref mo_draft, .int mo_dPeople, .int mo_dHalves, .int mo_toldLines, .int mo_highest, .ref mo_tape, .int mo_taped, .int mo_pos, .int mo_from, .int mo_sort, .int mo_value, .int mo_fault, .int mo_wrongAt, .ref mo_row, .int mo_orderMany, .int mo_firstOrder, .int mo_lightest, .int mo_heaviest, .ref mo_before, .long mo_justSum, .long mo_toldSum, .long mo_allWays, .ref mo_lanes, .ref mo_sizes, .ref mo_cells, .int mo_torn, .ref mo_had])), (mo_at, .inl (k 0, 44, .inl (hst))), (mo_row, .inl (k 0, 5, .inl (hsz))), (mo_before, .inl (k 0, 25, .inl (hsz)))] s.heap.size = A at hD ⊢
  have hA : ∀ q : Nat, s.heap.size ≤ q → A q := fun q h => by rw [← hAe]; exact Or.inr h
  have hS : va_S A s.heap s.heap [] := va_S.rf
  have hl := lv_entry ([.ref mo, .int 2]) (n := 5) (Nat.le_of_ble_eq_true rfl)
  rw [lg_entry_eq]
  generalize (lg_sl ([.ref mo, .int 2]) ++ List.replicate (5 - (lg_sl ([.ref mo, .int 2])).length) Slot.unset).toArray = ls at hl ⊢
  have hl : lv_has ls 5 [(0, .ref mo), (1, .int 2)] := hl
  have hP : va_P D vwCl [(mo, .inr (7, [.ref mo_st, .ref mo_at, .ref mo_isKept, .int mo_people, .int mo_halfMany, .ref mo_draft, .int mo_dPeople, .int mo_dHalves, .int mo_toldLines, .int mo_highest, .ref mo_tape, .int mo_taped, .int mo_pos, .int mo_from, .int mo_sort, .int mo_value, .int mo_fault, .int mo_wrongAt, .ref mo_row, .int mo_orderMany, .int mo_firstOrder, .int mo_lightest, .int mo_heaviest, .ref mo_before, .long mo_justSum, .long mo_toldSum, .long mo_allWays, .ref mo_lanes, .ref mo_sizes, .ref mo_cells, .int mo_torn, .ref mo_had])), (mo_at, .inl (k 0, 44, .inl (hst))), (mo_row, .inl (k 0, 5, .inl (hsz))), (mo_before, .inl (k 0, 25, .inl (hsz)))] s.heap := hP
  refine lv_aload_n hx hb dX8_findOrders_0 rfl (lv_at hl 0 rfl) ?_
  refine lv_iconst (v := 0) hx hb dX8_findOrders_1 (by decide) ?_
  refine va_put (D := D) (ci := 7) (v := .int 0) (ty := .int) (C := RX8) (T := TX8) (N := 32) hx hb hts hiX8 tyX8 tyX8_ok nmX8 hown hK hP hD hS 0 rfl rfl 19 (by decide) fl149 (fun _ h9 => h9) rfl (by decide +kernel) rfl rfl (Nat.le_of_ble_eq_true rfl) dX8_findOrders_2 (fun H locs hP hD hS => ?_)
  have hP : va_P D vwCl [(mo, .inr (7, [.ref mo_st, .ref mo_at, .ref mo_isKept, .int mo_people, .int mo_halfMany, .ref mo_draft, .int mo_dPeople, .int mo_dHalves, .int mo_toldLines, .int mo_highest, .ref mo_tape, .int mo_taped, .int mo_pos, .int mo_from, .int mo_sort, .int mo_value, .int mo_fault, .int mo_wrongAt, .ref mo_row, .int 0, .int mo_firstOrder, .int mo_lightest, .int mo_heaviest, .ref mo_before, .long mo_justSum, .long mo_toldSum, .long mo_allWays, .ref mo_lanes, .ref mo_sizes, .ref mo_cells, .int mo_torn, .ref mo_had])), (mo_at, .inl (k 0, 44, .inl (hst))), (mo_row, .inl (k 0, 5, .inl (hsz))), (mo_before, .inl (k 0, 25, .inl (hsz)))] H := hP
  have hD : va_D A [(mo, .inr (7, [.ref mo_st, .ref mo_at, .ref mo_isKept, .int mo_people, .int mo_halfMany, .ref mo_draft, .int mo_dPeople, .int mo_dHalves, .int mo_toldLines, .int mo_highest, .ref mo_tape, .int mo_taped, .int mo_pos, .int mo_from, .int mo_sort, .int mo_value, .int mo_fault, .int mo_wrongAt, .ref mo_row, .int 0, .int mo_firstOrder, .int mo_lightest, .int mo_heaviest, .ref mo_before, .long mo_justSum, .long mo_toldSum, .long mo_allWays, .ref mo_lanes, .ref mo_sizes, .ref mo_cells, .int mo_torn, .ref mo_had])), (mo_at, .inl (k 0, 44, .inl (hst))), (mo_row, .inl (k 0, 5, .inl (hsz))), (mo_before, .inl (k 0, 25, .inl (hsz)))] := hD
  refine lv_aload_n hx hb dX8_findOrders_5 rfl (lv_at hl 0 rfl) ?_
  refine lv_iconst (v := 0) hx hb dX8_findOrders_6 (by decide) ?_
  refine va_put (D := D) (ci := 7) (v := .int 0) (ty := .int) (C := RX8) (T := TX8) (N := 32) hx hb hts hiX8 tyX8 tyX8_ok nmX8 hown hK hP hD hS 0 rfl rfl 20 (by decide) fl204 (fun _ h9 => h9) rfl (by decide +kernel) rfl rfl (Nat.le_of_ble_eq_true rfl) dX8_findOrders_7 (fun H locs hP hD hS => ?_)
  have hP : va_P D vwCl [(mo, .inr (7, [.ref mo_st, .ref mo_at, .ref mo_isKept, .int mo_people, .int mo_halfMany, .ref mo_draft, .int mo_dPeople, .int mo_dHalves, .int mo_toldLines, .int mo_highest, .ref mo_tape, .int mo_taped, .int mo_pos, .int mo_from, .int mo_sort, .int mo_value, .int mo_fault, .int mo_wrongAt, .ref mo_row, .int 0, .int 0, .int mo_lightest, .int mo_heaviest, .ref mo_before, .long mo_justSum, .long mo_toldSum, .long mo_allWays, .ref mo_lanes, .ref mo_sizes, .ref mo_cells, .int mo_torn, .ref mo_had])), (mo_at, .inl (k 0, 44, .inl (hst))), (mo_row, .inl (k 0, 5, .inl (hsz))), (mo_before, .inl (k 0, 25, .inl (hsz)))] H := hP
  have hD : va_D A [(mo, .inr (7, [.ref mo_st, .ref mo_at, .ref mo_isKept, .int mo_people, .int mo_halfMany, .ref mo_draft, .int mo_dPeople, .int mo_dHalves, .int mo_toldLines, .int mo_highest, .ref mo_tape, .int mo_taped, .int mo_pos, .int mo_from, .int mo_sort, .int mo_value, .int mo_fault, .int mo_wrongAt, .ref mo_row, .int 0, .int 0, .int mo_lightest, .int mo_heaviest, .ref mo_before, .long mo_justSum, .long mo_toldSum, .long mo_allWays, .ref mo_lanes, .ref mo_sizes, .ref mo_cells, .int mo_torn, .ref mo_had])), (mo_at, .inl (k 0, 44, .inl (hst))), (mo_row, .inl (k 0, 5, .inl (hsz))), (mo_before, .inl (k 0, 25, .inl (hsz)))] := hD
  refine lv_aload_n hx hb dX8_findOrders_10 rfl (lv_at hl 0 rfl) ?_
  refine lv_iconst (v := 0) hx hb dX8_findOrders_11 (by decide) ?_
  refine va_put (D := D) (ci := 7) (v := .int 0) (ty := .int) (C := RX8) (T := TX8) (N := 32) hx hb hts hiX8 tyX8 tyX8_ok nmX8 hown hK hP hD hS 0 rfl rfl 21 (by decide) fl207 (fun _ h9 => h9) rfl (by decide +kernel) rfl rfl (Nat.le_of_ble_eq_true rfl) dX8_findOrders_12 (fun H locs hP hD hS => ?_)
  have hP : va_P D vwCl [(mo, .inr (7, [.ref mo_st, .ref mo_at, .ref mo_isKept, .int mo_people, .int mo_halfMany, .ref mo_draft, .int mo_dPeople, .int mo_dHalves, .int mo_toldLines, .int mo_highest, .ref mo_tape, .int mo_taped, .int mo_pos, .int mo_from, .int mo_sort, .int mo_value, .int mo_fault, .int mo_wrongAt, .ref mo_row, .int 0, .int 0, .int 0, .int mo_heaviest, .ref mo_before, .long mo_justSum, .long mo_toldSum, .long mo_allWays, .ref mo_lanes, .ref mo_sizes, .ref mo_cells, .int mo_torn, .ref mo_had])), (mo_at, .inl (k 0, 44, .inl (hst))), (mo_row, .inl (k 0, 5, .inl (hsz))), (mo_before, .inl (k 0, 25, .inl (hsz)))] H := hP
  have hD : va_D A [(mo, .inr (7, [.ref mo_st, .ref mo_at, .ref mo_isKept, .int mo_people, .int mo_halfMany, .ref mo_draft, .int mo_dPeople, .int mo_dHalves, .int mo_toldLines, .int mo_highest, .ref mo_tape, .int mo_taped, .int mo_pos, .int mo_from, .int mo_sort, .int mo_value, .int mo_fault, .int mo_wrongAt, .ref mo_row, .int 0, .int 0, .int 0, .int mo_heaviest, .ref mo_before, .long mo_justSum, .long mo_toldSum, .long mo_allWays, .ref mo_lanes, .ref mo_sizes, .ref mo_cells, .int mo_torn, .ref mo_had])), (mo_at, .inl (k 0, 44, .inl (hst))), (mo_row, .inl (k 0, 5, .inl (hsz))), (mo_before, .inl (k 0, 25, .inl (hsz)))] := hD
  refine lv_aload_n hx hb dX8_findOrders_15 rfl (lv_at hl 0 rfl) ?_
  refine lv_iconst (v := 0) hx hb dX8_findOrders_16 (by decide) ?_
  refine va_put (D := D) (ci := 7) (v := .int 0) (ty := .int) (C := RX8) (T := TX8) (N := 32) hx hb hts hiX8 tyX8 tyX8_ok nmX8 hown hK hP hD hS 0 rfl rfl 22 (by decide) fl210 (fun _ h9 => h9) rfl (by decide +kernel) rfl rfl (Nat.le_of_ble_eq_true rfl) dX8_findOrders_17 (fun H locs hP hD hS => ?_)
  have hP : va_P D vwCl [(mo, .inr (7, [.ref mo_st, .ref mo_at, .ref mo_isKept, .int mo_people, .int mo_halfMany, .ref mo_draft, .int mo_dPeople, .int mo_dHalves, .int mo_toldLines, .int mo_highest, .ref mo_tape, .int mo_taped, .int mo_pos, .int mo_from, .int mo_sort, .int mo_value, .int mo_fault, .int mo_wrongAt, .ref mo_row, .int 0, .int 0, .int 0, .int 0, .ref mo_before, .long mo_justSum, .long mo_toldSum, .long mo_allWays, .ref mo_lanes, .ref mo_sizes, .ref mo_cells, .int mo_torn, .ref mo_had])), (mo_at, .inl (k 0, 44, .inl (hst))), (mo_row, .inl (k 0, 5, .inl (hsz))), (mo_before, .inl (k 0, 25, .inl (hsz)))] H := hP
  have hD : va_D A [(mo, .inr (7, [.ref mo_st, .ref mo_at, .ref mo_isKept, .int mo_people, .int mo_halfMany, .ref mo_draft, .int mo_dPeople, .int mo_dHalves, .int mo_toldLines, .int mo_highest, .ref mo_tape, .int mo_taped, .int mo_pos, .int mo_from, .int mo_sort, .int mo_value, .int mo_fault, .int mo_wrongAt, .ref mo_row, .int 0, .int 0, .int 0, .int 0, .ref mo_before, .long mo_justSum, .long mo_toldSum, .long mo_allWays, .ref mo_lanes, .ref mo_sizes, .ref mo_cells, .int mo_torn, .ref mo_had])), (mo_at, .inl (k 0, 44, .inl (hst))), (mo_row, .inl (k 0, 5, .inl (hsz))), (mo_before, .inl (k 0, 25, .inl (hsz)))] := hD
  refine lv_iconst (v := 0) hx hb dX8_findOrders_20 (by decide) ?_
  refine lv_istore_n (lv' := [(2, .int 0), (0, .ref mo), (1, .int 2)]) hx hb dX8_findOrders_21 rfl hl (by decide) rfl (fun ls hl => ?_)
  refine hs_for 25 (fun i => [(mo, .inr (7, [.ref mo_st, .ref mo_at, .ref mo_isKept, .int mo_people, .int mo_halfMany, .ref mo_draft, .int mo_dPeople, .int mo_dHalves, .int mo_toldLines, .int mo_highest, .ref mo_tape, .int mo_taped, .int mo_pos, .int mo_from, .int mo_sort, .int mo_value, .int mo_fault, .int mo_wrongAt, .ref mo_row, .int 0, .int 0, .int 0, .int 0, .ref mo_before, .long mo_justSum, .long mo_toldSum, .long mo_allWays, .ref mo_lanes, .ref mo_sizes, .ref mo_cells, .int mo_torn, .ref mo_had])), (mo_at, .inl (k 0, 44, .inl (hst))), (mo_row, .inl (k 0, 5, .inl (hsz))), (mo_before, .inl (k 0, 25, .inl (hsfill hsz hsz i)))]) (fun i => [(2, .int (nI i)), (0, .ref mo), (1, .int 2)]) ?_ ?_ (by rw [hsfill_0]; exact hP) (by rw [hsfill_0]; exact hD) hS hl
  · intro i hi ih H locs ls hP hD hS hl
    refine lv_iload_n hx hb dX8_findOrders_22 rfl (lv_at hl 0 rfl) ?_
    refine lv_bipush (v := 25) hx hb dX8_findOrders_23 (by decide) ?_
    refine lv_icmp_ge (tgt := 41) hx hb dX8_findOrders_25 (by decide) (fun c_1 => absurd c_1 (nI_ge (show i < 25 by omega) (by decide))) (fun c_1 => ?_)
    refine lv_aload_n hx hb dX8_findOrders_28 rfl (lv_at hl 1 rfl) ?_
    refine va_get (D := D) (ci := 7) (v := .ref mo_before) (C := RX8) (T := TX8) (N := 32) hx hb hts hiX8 hown hK hP 0 rfl rfl 23 (by decide) fl29 (fun _ h9 => h9) rfl dX8_findOrders_29 ?_
    refine lv_iload_n hx hb dX8_findOrders_32 rfl (lv_at hl 0 rfl) ?_
    refine lv_iconst (v := 0) hx hb dX8_findOrders_33 (by decide) ?_
    refine va_iast hx hb hK hP hD hS 3 0 rfl rfl (vp_in_nI (show i < 25 by omega) (by decide)) dX8_findOrders_34 (fun H locs hP hD hS => ?_)
    have hE : upd (hsfill hsz hsz i) ((nI i).toNatClampNeg) 0 = hsfill hsz hsz (i + 1) := by rw [nI_clamp (show i < 2 ^ 31 by omega)]; exact hsfill_s hsz hsz i
    have hP : va_P D vwCl [(mo, .inr (7, [.ref mo_st, .ref mo_at, .ref mo_isKept, .int mo_people, .int mo_halfMany, .ref mo_draft, .int mo_dPeople, .int mo_dHalves, .int mo_toldLines, .int mo_highest, .ref mo_tape, .int mo_taped, .int mo_pos, .int mo_from, .int mo_sort, .int mo_value, .int mo_fault, .int mo_wrongAt, .ref mo_row, .int 0, .int 0, .int 0, .int 0, .ref mo_before, .long mo_justSum, .long mo_toldSum, .long mo_allWays, .ref mo_lanes, .ref mo_sizes, .ref mo_cells, .int mo_torn, .ref mo_had])), (mo_at, .inl (k 0, 44, .inl (hst))), (mo_row, .inl (k 0, 5, .inl (hsz))), (mo_before, .inl (k 0, 25, .inl (upd (hsfill hsz hsz i) ((nI i).toNatClampNeg) 0)))] H := hP
    have hD : va_D A [(mo, .inr (7, [.ref mo_st, .ref mo_at, .ref mo_isKept, .int mo_people, .int mo_halfMany, .ref mo_draft, .int mo_dPeople, .int mo_dHalves, .int mo_toldLines, .int mo_highest, .ref mo_tape, .int mo_taped, .int mo_pos, .int mo_from, .int mo_sort, .int mo_value, .int mo_fault, .int mo_wrongAt, .ref mo_row, .int 0, .int 0, .int 0, .int 0, .ref mo_before, .long mo_justSum, .long mo_toldSum, .long mo_allWays, .ref mo_lanes, .ref mo_sizes, .ref mo_cells, .int mo_torn, .ref mo_had])), (mo_at, .inl (k 0, 44, .inl (hst))), (mo_row, .inl (k 0, 5, .inl (hsz))), (mo_before, .inl (k 0, 25, .inl (upd (hsfill hsz hsz i) ((nI i).toNatClampNeg) 0)))] := hD
    rw [hE] at hP hD
    refine lv_iinc (v := nI (i + 1)) (lv' := [(2, .int (nI (i + 1))), (0, .ref mo), (1, .int 2)]) hx hb dX8_findOrders_35 hl (k := 0) rfl (by rw [nI_succ]; rfl) (by decide) rfl (fun ls hl => ?_)
    refine lv_goto (tgt := 22) hx hb dX8_findOrders_38 (by decide) ?_
    exact ih _ _ _ hP hD hS (lv_sub hl [0, 1, 2] rfl)
  · intro H locs ls hP hD hS hl
    have hE : hsfill hsz hsz 25 = hsz := hsfill_z _
    have hP : va_P D vwCl [(mo, .inr (7, [.ref mo_st, .ref mo_at, .ref mo_isKept, .int mo_people, .int mo_halfMany, .ref mo_draft, .int mo_dPeople, .int mo_dHalves, .int mo_toldLines, .int mo_highest, .ref mo_tape, .int mo_taped, .int mo_pos, .int mo_from, .int mo_sort, .int mo_value, .int mo_fault, .int mo_wrongAt, .ref mo_row, .int 0, .int 0, .int 0, .int 0, .ref mo_before, .long mo_justSum, .long mo_toldSum, .long mo_allWays, .ref mo_lanes, .ref mo_sizes, .ref mo_cells, .int mo_torn, .ref mo_had])), (mo_at, .inl (k 0, 44, .inl (hst))), (mo_row, .inl (k 0, 5, .inl (hsz))), (mo_before, .inl (k 0, 25, .inl (hsfill hsz hsz 25)))] H := hP
    have hD : va_D A [(mo, .inr (7, [.ref mo_st, .ref mo_at, .ref mo_isKept, .int mo_people, .int mo_halfMany, .ref mo_draft, .int mo_dPeople, .int mo_dHalves, .int mo_toldLines, .int mo_highest, .ref mo_tape, .int mo_taped, .int mo_pos, .int mo_from, .int mo_sort, .int mo_value, .int mo_fault, .int mo_wrongAt, .ref mo_row, .int 0, .int 0, .int 0, .int 0, .ref mo_before, .long mo_justSum, .long mo_toldSum, .long mo_allWays, .ref mo_lanes, .ref mo_sizes, .ref mo_cells, .int mo_torn, .ref mo_had])), (mo_at, .inl (k 0, 44, .inl (hst))), (mo_row, .inl (k 0, 5, .inl (hsz))), (mo_before, .inl (k 0, 25, .inl (hsfill hsz hsz 25)))] := hD
    rw [hE] at hP hD
    refine lv_iload_n hx hb dX8_findOrders_22 rfl (lv_at hl 0 rfl) ?_
    refine lv_bipush (v := 25) hx hb dX8_findOrders_23 (by decide) ?_
    refine lv_icmp_ge (tgt := 41) hx hb dX8_findOrders_25 (by decide) (fun c_2 => ?_) (fun c_2 => absurd (show (25 : Int32) ≤ nI 25 by decide) c_2)
    refine lv_iconst (v := 0) hx hb dX8_findOrders_41 (by decide) ?_
    refine lv_istore_n (lv' := [(2, .int 0), (0, .ref mo), (1, .int 2)]) hx hb dX8_findOrders_42 rfl hl (by decide) rfl (fun ls hl => ?_)
    refine lv_iload_n hx hb dX8_findOrders_43 rfl (lv_at hl 0 rfl) ?_
    refine lv_iload_n hx hb dX8_findOrders_44 rfl (lv_at hl 2 rfl) ?_
    refine lv_iload_n hx hb dX8_findOrders_45 rfl (lv_at hl 2 rfl) ?_
    refine hs_pi (va_runS (As := [.int 2, .int 2]) (rest := [.int 0]) ⟨hx, hb, hml, hown, hts⟩ (m_power_2_2 l D k _ ) (va_cwS 2 hts gX8_findOrders_X8_power rfl rfl rfl (by decide +kernel) ⟨Nat.le_of_ble_eq_true rfl, Nat.le_of_ble_eq_true rfl⟩) (hs_preS hK hN (hs_subP (w := []) hP [] rfl) (hD.sub (ws' := []) [] (by decide) rfl)) rfl rfl hl.1 rfl (lv_room (Nat.le_of_ble_eq_true rfl)) dX8_findOrders_46 ⟨Nat.le_of_ble_eq_true rfl, Nat.le_of_ble_eq_true rfl⟩) hP hD hS hA (fun r_3 u_5 H locs hw_4 hP hS => ?_)
    refine hs_topi 4 (hw_4.trans (by first | rfl | decide +kernel | rfl)) ?_
    refine lv_icmp_ge (tgt := 195) hx hb dX8_findOrders_49 (by decide) (fun c_6 => absurd c_6 (by decide)) (fun c_6 => ?_)
    refine lv_aload_n hx hb dX8_findOrders_52 rfl (lv_at hl 1 rfl) ?_
    refine lv_iload_n hx hb dX8_findOrders_53 rfl (lv_at hl 0 rfl) ?_
    refine lv_iload_n hx hb dX8_findOrders_54 rfl (lv_at hl 2 rfl) ?_
    refine hs_ci (va_runV (As := [.int 0, .int 2]) (rest := []) ⟨hx, hb, hml, hown, hts⟩ (m_isOrder_0 l D k _ mo mo_st mo_at mo_isKept mo_people mo_halfMany mo_draft mo_dPeople mo_dHalves mo_toldLines mo_highest mo_tape mo_taped mo_pos mo_from mo_sort mo_value mo_fault mo_wrongAt mo_row 0 0 0 0 mo_before mo_justSum mo_toldSum mo_allWays mo_lanes mo_sizes mo_cells mo_torn mo_had hsz) (cwV 2 hts gX8_findOrders_X8_isOrder rfl rfl rfl (by decide +kernel) ⟨Nat.le_of_ble_eq_true rfl, Nat.le_of_ble_eq_true rfl⟩) (hs_preV hK hN (hs_subP (w := [(mo, .inr (7, [.ref mo_st, .ref mo_at, .ref mo_isKept, .int mo_people, .int mo_halfMany, .ref mo_draft, .int mo_dPeople, .int mo_dHalves, .int mo_toldLines, .int mo_highest, .ref mo_tape, .int mo_taped, .int mo_pos, .int mo_from, .int mo_sort, .int mo_value, .int mo_fault, .int mo_wrongAt, .ref mo_row, .int 0, .int 0, .int 0, .int 0, .ref mo_before, .long mo_justSum, .long mo_toldSum, .long mo_allWays, .ref mo_lanes, .ref mo_sizes, .ref mo_cells, .int mo_torn, .ref mo_had])), (mo_row, .inl (k 0, 5, .inl (hsz)))]) hP [0, 2] rfl) (hD.sub (ws' := [(mo, .inr (7, [.ref mo_st, .ref mo_at, .ref mo_isKept, .int mo_people, .int mo_halfMany, .ref mo_draft, .int mo_dPeople, .int mo_dHalves, .int mo_toldLines, .int mo_highest, .ref mo_tape, .int mo_taped, .int mo_pos, .int mo_from, .int mo_sort, .int mo_value, .int mo_fault, .int mo_wrongAt, .ref mo_row, .int 0, .int 0, .int 0, .int 0, .ref mo_before, .long mo_justSum, .long mo_toldSum, .long mo_allWays, .ref mo_lanes, .ref mo_sizes, .ref mo_cells, .int mo_torn, .ref mo_had])), (mo_row, .inl (k 0, 5, .inl (hsz)))]) [0, 2] (by decide) rfl) (ci := 7) (q0 := 0) rfl rfl) rfl rfl hl.1 rfl (lv_room (Nat.le_of_ble_eq_true rfl)) dX8_findOrders_55 ⟨Nat.le_of_ble_eq_true rfl, Nat.le_of_ble_eq_true rfl⟩) hP hD hS hA [0, 2] [1, 3] [(mo_at, .inl (k 0, 44, .inl (hst))), (mo_before, .inl (k 0, 25, .inl (hsz)))] rfl rfl (by decide) (by decide) [2, 0, 3, 1] (fun u_9 => [(mo, .inr (7, [.ref mo_st, .ref mo_at, .ref mo_isKept, .int mo_people, .int mo_halfMany, .ref mo_draft, .int mo_dPeople, .int mo_dHalves, .int mo_toldLines, .int mo_highest, .ref mo_tape, .int mo_taped, .int mo_pos, .int mo_from, .int mo_sort, .int mo_value, .int mo_fault, .int mo_wrongAt, .ref mo_row, .int 0, .int 0, .int 0, .int 0, .ref mo_before, .long mo_justSum, .long mo_toldSum, .long mo_allWays, .ref mo_lanes, .ref mo_sizes, .ref mo_cells, .int mo_torn, .ref mo_had])), (mo_at, .inl (k 0, 44, .inl (hst))), (mo_row, .inl (k 0, 5, .inl (upd (upd hsz 1 0) 0 0))), (mo_before, .inl (k 0, 25, .inl (hsz)))]) (fun _ => rfl) (by decide) (fun r_7 u_9 H locs hw_8 hP hD hS => ?_)
    have hP : va_P D vwCl [(mo, .inr (7, [.ref mo_st, .ref mo_at, .ref mo_isKept, .int mo_people, .int mo_halfMany, .ref mo_draft, .int mo_dPeople, .int mo_dHalves, .int mo_toldLines, .int mo_highest, .ref mo_tape, .int mo_taped, .int mo_pos, .int mo_from, .int mo_sort, .int mo_value, .int mo_fault, .int mo_wrongAt, .ref mo_row, .int 0, .int 0, .int 0, .int 0, .ref mo_before, .long mo_justSum, .long mo_toldSum, .long mo_allWays, .ref mo_lanes, .ref mo_sizes, .ref mo_cells, .int mo_torn, .ref mo_had])), (mo_at, .inl (k 0, 44, .inl (hst))), (mo_row, .inl (k 0, 5, .inl (upd (upd hsz 1 0) 0 0))), (mo_before, .inl (k 0, 25, .inl (hsz)))] H := hP
    have hD : va_D A [(mo, .inr (7, [.ref mo_st, .ref mo_at, .ref mo_isKept, .int mo_people, .int mo_halfMany, .ref mo_draft, .int mo_dPeople, .int mo_dHalves, .int mo_toldLines, .int mo_highest, .ref mo_tape, .int mo_taped, .int mo_pos, .int mo_from, .int mo_sort, .int mo_value, .int mo_fault, .int mo_wrongAt, .ref mo_row, .int 0, .int 0, .int 0, .int 0, .ref mo_before, .long mo_justSum, .long mo_toldSum, .long mo_allWays, .ref mo_lanes, .ref mo_sizes, .ref mo_cells, .int mo_torn, .ref mo_had])), (mo_at, .inl (k 0, 44, .inl (hst))), (mo_row, .inl (k 0, 5, .inl (upd (upd hsz 1 0) 0 0))), (mo_before, .inl (k 0, 25, .inl (hsz)))] := hD
    refine hs_topi 0 (hw_8.trans (by first | rfl | decide +kernel | rfl)) ?_
    refine lv_if_eq (tgt := 189) hx hb dX8_findOrders_58 (by decide) (fun c_10 => ?_) (fun c_10 => absurd c_10 (by decide))
    refine lv_iinc (v := 1) (lv' := [(2, .int 1), (0, .ref mo), (1, .int 2)]) hx hb dX8_findOrders_189 hl (k := 0) rfl (by decide) (by decide) rfl (fun ls hl => ?_)
    refine lv_goto (tgt := 43) hx hb dX8_findOrders_192 (by decide) ?_
    refine lv_iload_n hx hb dX8_findOrders_43 rfl (lv_at hl 0 rfl) ?_
    refine lv_iload_n hx hb dX8_findOrders_44 rfl (lv_at hl 2 rfl) ?_
    refine lv_iload_n hx hb dX8_findOrders_45 rfl (lv_at hl 2 rfl) ?_
    refine hs_pi (va_runS (As := [.int 2, .int 2]) (rest := [.int 1]) ⟨hx, hb, hml, hown, hts⟩ (m_power_2_2 l D k _ ) (va_cwS 2 hts gX8_findOrders_X8_power rfl rfl rfl (by decide +kernel) ⟨Nat.le_of_ble_eq_true rfl, Nat.le_of_ble_eq_true rfl⟩) (hs_preS hK hN (hs_subP (w := []) hP [] rfl) (hD.sub (ws' := []) [] (by decide) rfl)) rfl rfl hl.1 rfl (lv_room (Nat.le_of_ble_eq_true rfl)) dX8_findOrders_46 ⟨Nat.le_of_ble_eq_true rfl, Nat.le_of_ble_eq_true rfl⟩) hP hD hS hA (fun r_11 u_13 H locs hw_12 hP hS => ?_)
    refine hs_topi 4 (hw_12.trans (by first | rfl | decide +kernel | rfl)) ?_
    refine lv_icmp_ge (tgt := 195) hx hb dX8_findOrders_49 (by decide) (fun c_14 => absurd c_14 (by decide)) (fun c_14 => ?_)
    refine lv_aload_n hx hb dX8_findOrders_52 rfl (lv_at hl 1 rfl) ?_
    refine lv_iload_n hx hb dX8_findOrders_53 rfl (lv_at hl 0 rfl) ?_
    refine lv_iload_n hx hb dX8_findOrders_54 rfl (lv_at hl 2 rfl) ?_
    refine hs_ci (va_runV (As := [.int 1, .int 2]) (rest := []) ⟨hx, hb, hml, hown, hts⟩ (m_isOrder_1 l D k _ mo mo_st mo_at mo_isKept mo_people mo_halfMany mo_draft mo_dPeople mo_dHalves mo_toldLines mo_highest mo_tape mo_taped mo_pos mo_from mo_sort mo_value mo_fault mo_wrongAt mo_row 0 0 0 0 mo_before mo_justSum mo_toldSum mo_allWays mo_lanes mo_sizes mo_cells mo_torn mo_had (upd (upd hsz 1 0) 0 0)) (cwV 2 hts gX8_findOrders_X8_isOrder rfl rfl rfl (by decide +kernel) ⟨Nat.le_of_ble_eq_true rfl, Nat.le_of_ble_eq_true rfl⟩) (hs_preV hK hN (hs_subP (w := [(mo, .inr (7, [.ref mo_st, .ref mo_at, .ref mo_isKept, .int mo_people, .int mo_halfMany, .ref mo_draft, .int mo_dPeople, .int mo_dHalves, .int mo_toldLines, .int mo_highest, .ref mo_tape, .int mo_taped, .int mo_pos, .int mo_from, .int mo_sort, .int mo_value, .int mo_fault, .int mo_wrongAt, .ref mo_row, .int 0, .int 0, .int 0, .int 0, .ref mo_before, .long mo_justSum, .long mo_toldSum, .long mo_allWays, .ref mo_lanes, .ref mo_sizes, .ref mo_cells, .int mo_torn, .ref mo_had])), (mo_row, .inl (k 0, 5, .inl (upd (upd hsz 1 0) 0 0)))]) hP [0, 2] rfl) (hD.sub (ws' := [(mo, .inr (7, [.ref mo_st, .ref mo_at, .ref mo_isKept, .int mo_people, .int mo_halfMany, .ref mo_draft, .int mo_dPeople, .int mo_dHalves, .int mo_toldLines, .int mo_highest, .ref mo_tape, .int mo_taped, .int mo_pos, .int mo_from, .int mo_sort, .int mo_value, .int mo_fault, .int mo_wrongAt, .ref mo_row, .int 0, .int 0, .int 0, .int 0, .ref mo_before, .long mo_justSum, .long mo_toldSum, .long mo_allWays, .ref mo_lanes, .ref mo_sizes, .ref mo_cells, .int mo_torn, .ref mo_had])), (mo_row, .inl (k 0, 5, .inl (upd (upd hsz 1 0) 0 0)))]) [0, 2] (by decide) rfl) (ci := 7) (q0 := 0) rfl rfl) rfl rfl hl.1 rfl (lv_room (Nat.le_of_ble_eq_true rfl)) dX8_findOrders_55 ⟨Nat.le_of_ble_eq_true rfl, Nat.le_of_ble_eq_true rfl⟩) hP hD hS hA [0, 2] [1, 3] [(mo_at, .inl (k 0, 44, .inl (hst))), (mo_before, .inl (k 0, 25, .inl (hsz)))] rfl rfl (by decide) (by decide) [2, 0, 3, 1] (fun u_17 => [(mo, .inr (7, [.ref mo_st, .ref mo_at, .ref mo_isKept, .int mo_people, .int mo_halfMany, .ref mo_draft, .int mo_dPeople, .int mo_dHalves, .int mo_toldLines, .int mo_highest, .ref mo_tape, .int mo_taped, .int mo_pos, .int mo_from, .int mo_sort, .int mo_value, .int mo_fault, .int mo_wrongAt, .ref mo_row, .int 0, .int 0, .int 0, .int 0, .ref mo_before, .long mo_justSum, .long mo_toldSum, .long mo_allWays, .ref mo_lanes, .ref mo_sizes, .ref mo_cells, .int mo_torn, .ref mo_had])), (mo_at, .inl (k 0, 44, .inl (hst))), (mo_row, .inl (k 0, 5, .inl (upd (upd (upd (upd hsz 1 0) 0 0) 1 1) 0 0))), (mo_before, .inl (k 0, 25, .inl (hsz)))]) (fun _ => rfl) (by decide) (fun r_15 u_17 H locs hw_16 hP hD hS => ?_)
    have hP : va_P D vwCl [(mo, .inr (7, [.ref mo_st, .ref mo_at, .ref mo_isKept, .int mo_people, .int mo_halfMany, .ref mo_draft, .int mo_dPeople, .int mo_dHalves, .int mo_toldLines, .int mo_highest, .ref mo_tape, .int mo_taped, .int mo_pos, .int mo_from, .int mo_sort, .int mo_value, .int mo_fault, .int mo_wrongAt, .ref mo_row, .int 0, .int 0, .int 0, .int 0, .ref mo_before, .long mo_justSum, .long mo_toldSum, .long mo_allWays, .ref mo_lanes, .ref mo_sizes, .ref mo_cells, .int mo_torn, .ref mo_had])), (mo_at, .inl (k 0, 44, .inl (hst))), (mo_row, .inl (k 0, 5, .inl (upd (upd (upd (upd hsz 1 0) 0 0) 1 1) 0 0))), (mo_before, .inl (k 0, 25, .inl (hsz)))] H := hP
    have hD : va_D A [(mo, .inr (7, [.ref mo_st, .ref mo_at, .ref mo_isKept, .int mo_people, .int mo_halfMany, .ref mo_draft, .int mo_dPeople, .int mo_dHalves, .int mo_toldLines, .int mo_highest, .ref mo_tape, .int mo_taped, .int mo_pos, .int mo_from, .int mo_sort, .int mo_value, .int mo_fault, .int mo_wrongAt, .ref mo_row, .int 0, .int 0, .int 0, .int 0, .ref mo_before, .long mo_justSum, .long mo_toldSum, .long mo_allWays, .ref mo_lanes, .ref mo_sizes, .ref mo_cells, .int mo_torn, .ref mo_had])), (mo_at, .inl (k 0, 44, .inl (hst))), (mo_row, .inl (k 0, 5, .inl (upd (upd (upd (upd hsz 1 0) 0 0) 1 1) 0 0))), (mo_before, .inl (k 0, 25, .inl (hsz)))] := hD
    refine hs_topi 1 (hw_16.trans (by first | rfl | decide +kernel | rfl)) ?_
    refine lv_if_eq (tgt := 189) hx hb dX8_findOrders_58 (by decide) (fun c_18 => absurd c_18 (by decide)) (fun c_18 => ?_)
    refine lv_aload_n hx hb dX8_findOrders_61 rfl (lv_at hl 1 rfl) ?_
    refine lv_iload_n hx hb dX8_findOrders_62 rfl (lv_at hl 2 rfl) ?_
    refine hs_ci (va_runV (As := [.int 2]) (rest := []) ⟨hx, hb, hml, hown, hts⟩ (m_isTold0 l D k _ mo mo_st mo_at mo_isKept mo_people mo_halfMany mo_draft mo_dPeople mo_dHalves mo_toldLines mo_highest mo_tape mo_taped mo_pos mo_from mo_sort mo_value mo_fault mo_wrongAt mo_row 0 0 0 0 mo_before mo_justSum mo_toldSum mo_allWays mo_lanes mo_sizes mo_cells mo_torn mo_had) (cwV 1 hts gX8_findOrders_X8_isTold rfl rfl rfl (by decide +kernel) ⟨Nat.le_of_ble_eq_true rfl, Nat.le_of_ble_eq_true rfl⟩) (hs_preV hK hN (hs_subP (w := [(mo, .inr (7, [.ref mo_st, .ref mo_at, .ref mo_isKept, .int mo_people, .int mo_halfMany, .ref mo_draft, .int mo_dPeople, .int mo_dHalves, .int mo_toldLines, .int mo_highest, .ref mo_tape, .int mo_taped, .int mo_pos, .int mo_from, .int mo_sort, .int mo_value, .int mo_fault, .int mo_wrongAt, .ref mo_row, .int 0, .int 0, .int 0, .int 0, .ref mo_before, .long mo_justSum, .long mo_toldSum, .long mo_allWays, .ref mo_lanes, .ref mo_sizes, .ref mo_cells, .int mo_torn, .ref mo_had])), (mo_at, .inl (k 0, 44, .inl (hst)))]) hP [0, 1] rfl) (hD.sub (ws' := [(mo, .inr (7, [.ref mo_st, .ref mo_at, .ref mo_isKept, .int mo_people, .int mo_halfMany, .ref mo_draft, .int mo_dPeople, .int mo_dHalves, .int mo_toldLines, .int mo_highest, .ref mo_tape, .int mo_taped, .int mo_pos, .int mo_from, .int mo_sort, .int mo_value, .int mo_fault, .int mo_wrongAt, .ref mo_row, .int 0, .int 0, .int 0, .int 0, .ref mo_before, .long mo_justSum, .long mo_toldSum, .long mo_allWays, .ref mo_lanes, .ref mo_sizes, .ref mo_cells, .int mo_torn, .ref mo_had])), (mo_at, .inl (k 0, 44, .inl (hst)))]) [0, 1] (by decide) rfl) (ci := 7) (q0 := 0) rfl rfl) rfl rfl hl.1 rfl (lv_room (Nat.le_of_ble_eq_true rfl)) dX8_findOrders_63 ⟨Nat.le_of_ble_eq_true rfl, Nat.le_of_ble_eq_true rfl⟩) hP hD hS hA [0, 1] [2, 3] [(mo_row, .inl (k 0, 5, .inl (upd (upd (upd (upd hsz 1 0) 0 0) 1 1) 0 0))), (mo_before, .inl (k 0, 25, .inl (hsz)))] rfl rfl (by decide) (by decide) [2, 3, 0, 1] (fun u_21 => [(mo, .inr (7, [.ref mo_st, .ref mo_at, .ref mo_isKept, .int mo_people, .int mo_halfMany, .ref mo_draft, .int mo_dPeople, .int mo_dHalves, .int mo_toldLines, .int mo_highest, .ref mo_tape, .int mo_taped, .int mo_pos, .int mo_from, .int mo_sort, .int mo_value, .int mo_fault, .int mo_wrongAt, .ref mo_row, .int 0, .int 0, .int 0, .int 0, .ref mo_before, .long mo_justSum, .long mo_toldSum, .long mo_allWays, .ref mo_lanes, .ref mo_sizes, .ref mo_cells, .int mo_torn, .ref mo_had])), (mo_at, .inl (k 0, 44, .inl (hst))), (mo_row, .inl (k 0, 5, .inl (upd (upd (upd (upd hsz 1 0) 0 0) 1 1) 0 0))), (mo_before, .inl (k 0, 25, .inl (hsz)))]) (fun _ => rfl) (by decide) (fun r_19 u_21 H locs hw_20 hP hD hS => ?_)
    have hP : va_P D vwCl [(mo, .inr (7, [.ref mo_st, .ref mo_at, .ref mo_isKept, .int mo_people, .int mo_halfMany, .ref mo_draft, .int mo_dPeople, .int mo_dHalves, .int mo_toldLines, .int mo_highest, .ref mo_tape, .int mo_taped, .int mo_pos, .int mo_from, .int mo_sort, .int mo_value, .int mo_fault, .int mo_wrongAt, .ref mo_row, .int 0, .int 0, .int 0, .int 0, .ref mo_before, .long mo_justSum, .long mo_toldSum, .long mo_allWays, .ref mo_lanes, .ref mo_sizes, .ref mo_cells, .int mo_torn, .ref mo_had])), (mo_at, .inl (k 0, 44, .inl (hst))), (mo_row, .inl (k 0, 5, .inl (upd (upd (upd (upd hsz 1 0) 0 0) 1 1) 0 0))), (mo_before, .inl (k 0, 25, .inl (hsz)))] H := hP
    have hD : va_D A [(mo, .inr (7, [.ref mo_st, .ref mo_at, .ref mo_isKept, .int mo_people, .int mo_halfMany, .ref mo_draft, .int mo_dPeople, .int mo_dHalves, .int mo_toldLines, .int mo_highest, .ref mo_tape, .int mo_taped, .int mo_pos, .int mo_from, .int mo_sort, .int mo_value, .int mo_fault, .int mo_wrongAt, .ref mo_row, .int 0, .int 0, .int 0, .int 0, .ref mo_before, .long mo_justSum, .long mo_toldSum, .long mo_allWays, .ref mo_lanes, .ref mo_sizes, .ref mo_cells, .int mo_torn, .ref mo_had])), (mo_at, .inl (k 0, 44, .inl (hst))), (mo_row, .inl (k 0, 5, .inl (upd (upd (upd (upd hsz 1 0) 0 0) 1 1) 0 0))), (mo_before, .inl (k 0, 25, .inl (hsz)))] := hD
    refine hs_topi 1 (hw_20.trans (by first | rfl | decide +kernel | rfl)) ?_
    refine lv_if_eq (tgt := 189) hx hb dX8_findOrders_66 (by decide) (fun c_22 => absurd c_22 (by decide)) (fun c_22 => ?_)
    refine lv_aload_n hx hb dX8_findOrders_69 rfl (lv_at hl 1 rfl) ?_
    refine lv_aload_n hx hb dX8_findOrders_70 rfl (lv_at hl 1 rfl) ?_
    refine va_get (D := D) (ci := 7) (v := .int 0) (C := RX8) (T := TX8) (N := 32) hx hb hts hiX8 hown hK hP 0 rfl rfl 19 (by decide) fl149 (fun _ h9 => h9) rfl dX8_findOrders_71 ?_
    refine lv_if_ne (tgt := 81) hx hb dX8_findOrders_74 (by decide) (fun c_23 => absurd c_23 (by decide)) (fun c_23 => ?_)
    refine lv_iload_n hx hb dX8_findOrders_77 rfl (lv_at hl 0 rfl) ?_
    refine lv_goto (tgt := 85) hx hb dX8_findOrders_78 (by decide) ?_
    refine va_put (D := D) (ci := 7) (v := .int 1) (ty := .int) (C := RX8) (T := TX8) (N := 32) hx hb hts hiX8 tyX8 tyX8_ok nmX8 hown hK hP hD hS 0 rfl rfl 20 (by decide) fl204 (fun _ h9 => h9) rfl (by decide +kernel) rfl rfl (Nat.le_of_ble_eq_true rfl) dX8_findOrders_85 (fun H locs hP hD hS => ?_)
    have hP : va_P D vwCl [(mo, .inr (7, [.ref mo_st, .ref mo_at, .ref mo_isKept, .int mo_people, .int mo_halfMany, .ref mo_draft, .int mo_dPeople, .int mo_dHalves, .int mo_toldLines, .int mo_highest, .ref mo_tape, .int mo_taped, .int mo_pos, .int mo_from, .int mo_sort, .int mo_value, .int mo_fault, .int mo_wrongAt, .ref mo_row, .int 0, .int 1, .int 0, .int 0, .ref mo_before, .long mo_justSum, .long mo_toldSum, .long mo_allWays, .ref mo_lanes, .ref mo_sizes, .ref mo_cells, .int mo_torn, .ref mo_had])), (mo_at, .inl (k 0, 44, .inl (hst))), (mo_row, .inl (k 0, 5, .inl (upd (upd (upd (upd hsz 1 0) 0 0) 1 1) 0 0))), (mo_before, .inl (k 0, 25, .inl (hsz)))] H := hP
    have hD : va_D A [(mo, .inr (7, [.ref mo_st, .ref mo_at, .ref mo_isKept, .int mo_people, .int mo_halfMany, .ref mo_draft, .int mo_dPeople, .int mo_dHalves, .int mo_toldLines, .int mo_highest, .ref mo_tape, .int mo_taped, .int mo_pos, .int mo_from, .int mo_sort, .int mo_value, .int mo_fault, .int mo_wrongAt, .ref mo_row, .int 0, .int 1, .int 0, .int 0, .ref mo_before, .long mo_justSum, .long mo_toldSum, .long mo_allWays, .ref mo_lanes, .ref mo_sizes, .ref mo_cells, .int mo_torn, .ref mo_had])), (mo_at, .inl (k 0, 44, .inl (hst))), (mo_row, .inl (k 0, 5, .inl (upd (upd (upd (upd hsz 1 0) 0 0) 1 1) 0 0))), (mo_before, .inl (k 0, 25, .inl (hsz)))] := hD
    refine lv_aload_n hx hb dX8_findOrders_88 rfl (lv_at hl 1 rfl) ?_
    refine lv_dup hx hb dX8_findOrders_89 rfl ?_
    refine va_get (D := D) (ci := 7) (v := .int 0) (C := RX8) (T := TX8) (N := 32) hx hb hts hiX8 hown hK hP 0 rfl rfl 19 (by decide) fl149 (fun _ h9 => h9) rfl dX8_findOrders_90 ?_
    refine lv_iconst (v := 1) hx hb dX8_findOrders_93 (by decide) ?_
    refine lv_iadd hx hb dX8_findOrders_94 ?_
    refine hs_topi 1 (by first | rfl | decide +kernel) ?_
    refine va_put (D := D) (ci := 7) (v := .int 1) (ty := .int) (C := RX8) (T := TX8) (N := 32) hx hb hts hiX8 tyX8 tyX8_ok nmX8 hown hK hP hD hS 0 rfl rfl 19 (by decide) fl149 (fun _ h9 => h9) rfl (by decide +kernel) rfl rfl (Nat.le_of_ble_eq_true rfl) dX8_findOrders_95 (fun H locs hP hD hS => ?_)
    have hP : va_P D vwCl [(mo, .inr (7, [.ref mo_st, .ref mo_at, .ref mo_isKept, .int mo_people, .int mo_halfMany, .ref mo_draft, .int mo_dPeople, .int mo_dHalves, .int mo_toldLines, .int mo_highest, .ref mo_tape, .int mo_taped, .int mo_pos, .int mo_from, .int mo_sort, .int mo_value, .int mo_fault, .int mo_wrongAt, .ref mo_row, .int 1, .int 1, .int 0, .int 0, .ref mo_before, .long mo_justSum, .long mo_toldSum, .long mo_allWays, .ref mo_lanes, .ref mo_sizes, .ref mo_cells, .int mo_torn, .ref mo_had])), (mo_at, .inl (k 0, 44, .inl (hst))), (mo_row, .inl (k 0, 5, .inl (upd (upd (upd (upd hsz 1 0) 0 0) 1 1) 0 0))), (mo_before, .inl (k 0, 25, .inl (hsz)))] H := hP
    have hD : va_D A [(mo, .inr (7, [.ref mo_st, .ref mo_at, .ref mo_isKept, .int mo_people, .int mo_halfMany, .ref mo_draft, .int mo_dPeople, .int mo_dHalves, .int mo_toldLines, .int mo_highest, .ref mo_tape, .int mo_taped, .int mo_pos, .int mo_from, .int mo_sort, .int mo_value, .int mo_fault, .int mo_wrongAt, .ref mo_row, .int 1, .int 1, .int 0, .int 0, .ref mo_before, .long mo_justSum, .long mo_toldSum, .long mo_allWays, .ref mo_lanes, .ref mo_sizes, .ref mo_cells, .int mo_torn, .ref mo_had])), (mo_at, .inl (k 0, 44, .inl (hst))), (mo_row, .inl (k 0, 5, .inl (upd (upd (upd (upd hsz 1 0) 0 0) 1 1) 0 0))), (mo_before, .inl (k 0, 25, .inl (hsz)))] := hD
    refine lv_aload_n hx hb dX8_findOrders_98 rfl (lv_at hl 1 rfl) ?_
    refine lv_dup hx hb dX8_findOrders_99 rfl ?_
    refine va_get (D := D) (ci := 7) (v := .int 0) (C := RX8) (T := TX8) (N := 32) hx hb hts hiX8 hown hK hP 0 rfl rfl 21 (by decide) fl207 (fun _ h9 => h9) rfl dX8_findOrders_100 ?_
    refine lv_iconst (v := 1) hx hb dX8_findOrders_103 (by decide) ?_
    refine lv_aload_n hx hb dX8_findOrders_104 rfl (lv_at hl 1 rfl) ?_
    refine va_get (D := D) (ci := 7) (v := .ref mo_row) (C := RX8) (T := TX8) (N := 32) hx hb hts hiX8 hown hK hP 0 rfl rfl 18 (by decide) fl26 (fun _ h9 => h9) rfl dX8_findOrders_105 ?_
    refine lv_iconst (v := 0) hx hb dX8_findOrders_108 (by decide) ?_
    refine va_iald hx hb hK hP 2 0 rfl rfl (hs_in (by decide)) dX8_findOrders_109 ?_
    refine hs_topi 0 (by first | rfl | decide +kernel) ?_
    refine lv_ishl hx hb dX8_findOrders_110 ?_
    refine hs_topi 1 (by first | rfl | decide +kernel) ?_
    refine lv_ior hx hb dX8_findOrders_111 ?_
    refine hs_topi 1 (by first | rfl | decide +kernel) ?_
    refine va_put (D := D) (ci := 7) (v := .int 1) (ty := .int) (C := RX8) (T := TX8) (N := 32) hx hb hts hiX8 tyX8 tyX8_ok nmX8 hown hK hP hD hS 0 rfl rfl 21 (by decide) fl207 (fun _ h9 => h9) rfl (by decide +kernel) rfl rfl (Nat.le_of_ble_eq_true rfl) dX8_findOrders_112 (fun H locs hP hD hS => ?_)
    have hP : va_P D vwCl [(mo, .inr (7, [.ref mo_st, .ref mo_at, .ref mo_isKept, .int mo_people, .int mo_halfMany, .ref mo_draft, .int mo_dPeople, .int mo_dHalves, .int mo_toldLines, .int mo_highest, .ref mo_tape, .int mo_taped, .int mo_pos, .int mo_from, .int mo_sort, .int mo_value, .int mo_fault, .int mo_wrongAt, .ref mo_row, .int 1, .int 1, .int 1, .int 0, .ref mo_before, .long mo_justSum, .long mo_toldSum, .long mo_allWays, .ref mo_lanes, .ref mo_sizes, .ref mo_cells, .int mo_torn, .ref mo_had])), (mo_at, .inl (k 0, 44, .inl (hst))), (mo_row, .inl (k 0, 5, .inl (upd (upd (upd (upd hsz 1 0) 0 0) 1 1) 0 0))), (mo_before, .inl (k 0, 25, .inl (hsz)))] H := hP
    have hD : va_D A [(mo, .inr (7, [.ref mo_st, .ref mo_at, .ref mo_isKept, .int mo_people, .int mo_halfMany, .ref mo_draft, .int mo_dPeople, .int mo_dHalves, .int mo_toldLines, .int mo_highest, .ref mo_tape, .int mo_taped, .int mo_pos, .int mo_from, .int mo_sort, .int mo_value, .int mo_fault, .int mo_wrongAt, .ref mo_row, .int 1, .int 1, .int 1, .int 0, .ref mo_before, .long mo_justSum, .long mo_toldSum, .long mo_allWays, .ref mo_lanes, .ref mo_sizes, .ref mo_cells, .int mo_torn, .ref mo_had])), (mo_at, .inl (k 0, 44, .inl (hst))), (mo_row, .inl (k 0, 5, .inl (upd (upd (upd (upd hsz 1 0) 0 0) 1 1) 0 0))), (mo_before, .inl (k 0, 25, .inl (hsz)))] := hD
    refine lv_aload_n hx hb dX8_findOrders_115 rfl (lv_at hl 1 rfl) ?_
    refine lv_dup hx hb dX8_findOrders_116 rfl ?_
    refine va_get (D := D) (ci := 7) (v := .int 0) (C := RX8) (T := TX8) (N := 32) hx hb hts hiX8 hown hK hP 0 rfl rfl 22 (by decide) fl210 (fun _ h9 => h9) rfl dX8_findOrders_117 ?_
    refine lv_iconst (v := 1) hx hb dX8_findOrders_120 (by decide) ?_
    refine lv_aload_n hx hb dX8_findOrders_121 rfl (lv_at hl 1 rfl) ?_
    refine va_get (D := D) (ci := 7) (v := .ref mo_row) (C := RX8) (T := TX8) (N := 32) hx hb hts hiX8 hown hK hP 0 rfl rfl 18 (by decide) fl26 (fun _ h9 => h9) rfl dX8_findOrders_122 ?_
    refine lv_iload_n hx hb dX8_findOrders_125 rfl (lv_at hl 2 rfl) ?_
    refine lv_iconst (v := 1) hx hb dX8_findOrders_126 (by decide) ?_
    refine lv_isub hx hb dX8_findOrders_127 ?_
    refine hs_topi 1 (by first | rfl | decide +kernel) ?_
    refine va_iald hx hb hK hP 2 0 rfl rfl (hs_in (by decide)) dX8_findOrders_128 ?_
    refine hs_topi 1 (by first | rfl | decide +kernel) ?_
    refine lv_ishl hx hb dX8_findOrders_129 ?_
    refine hs_topi 2 (by first | rfl | decide +kernel) ?_
    refine lv_ior hx hb dX8_findOrders_130 ?_
    refine hs_topi 2 (by first | rfl | decide +kernel) ?_
    refine va_put (D := D) (ci := 7) (v := .int 2) (ty := .int) (C := RX8) (T := TX8) (N := 32) hx hb hts hiX8 tyX8 tyX8_ok nmX8 hown hK hP hD hS 0 rfl rfl 22 (by decide) fl210 (fun _ h9 => h9) rfl (by decide +kernel) rfl rfl (Nat.le_of_ble_eq_true rfl) dX8_findOrders_131 (fun H locs hP hD hS => ?_)
    have hP : va_P D vwCl [(mo, .inr (7, [.ref mo_st, .ref mo_at, .ref mo_isKept, .int mo_people, .int mo_halfMany, .ref mo_draft, .int mo_dPeople, .int mo_dHalves, .int mo_toldLines, .int mo_highest, .ref mo_tape, .int mo_taped, .int mo_pos, .int mo_from, .int mo_sort, .int mo_value, .int mo_fault, .int mo_wrongAt, .ref mo_row, .int 1, .int 1, .int 1, .int 2, .ref mo_before, .long mo_justSum, .long mo_toldSum, .long mo_allWays, .ref mo_lanes, .ref mo_sizes, .ref mo_cells, .int mo_torn, .ref mo_had])), (mo_at, .inl (k 0, 44, .inl (hst))), (mo_row, .inl (k 0, 5, .inl (upd (upd (upd (upd hsz 1 0) 0 0) 1 1) 0 0))), (mo_before, .inl (k 0, 25, .inl (hsz)))] H := hP
    have hD : va_D A [(mo, .inr (7, [.ref mo_st, .ref mo_at, .ref mo_isKept, .int mo_people, .int mo_halfMany, .ref mo_draft, .int mo_dPeople, .int mo_dHalves, .int mo_toldLines, .int mo_highest, .ref mo_tape, .int mo_taped, .int mo_pos, .int mo_from, .int mo_sort, .int mo_value, .int mo_fault, .int mo_wrongAt, .ref mo_row, .int 1, .int 1, .int 1, .int 2, .ref mo_before, .long mo_justSum, .long mo_toldSum, .long mo_allWays, .ref mo_lanes, .ref mo_sizes, .ref mo_cells, .int mo_torn, .ref mo_had])), (mo_at, .inl (k 0, 44, .inl (hst))), (mo_row, .inl (k 0, 5, .inl (upd (upd (upd (upd hsz 1 0) 0 0) 1 1) 0 0))), (mo_before, .inl (k 0, 25, .inl (hsz)))] := hD
    refine lv_iconst (v := 0) hx hb dX8_findOrders_134 (by decide) ?_
    refine lv_istore_n (lv' := [(3, .int 0), (2, .int 1), (0, .ref mo), (1, .int 2)]) hx hb dX8_findOrders_135 rfl hl (by decide) rfl (fun ls hl => ?_)
    refine lv_iload_n hx hb dX8_findOrders_136 rfl (lv_at hl 0 rfl) ?_
    refine lv_iload_n hx hb dX8_findOrders_137 rfl (lv_at hl 3 rfl) ?_
    refine lv_icmp_ge (tgt := 189) hx hb dX8_findOrders_138 (by decide) (fun c_24 => absurd c_24 (by decide)) (fun c_24 => ?_)
    refine lv_iload_n hx hb dX8_findOrders_141 rfl (lv_at hl 0 rfl) ?_
    refine lv_iconst (v := 1) hx hb dX8_findOrders_142 (by decide) ?_
    refine lv_iadd hx hb dX8_findOrders_143 ?_
    refine hs_topi 1 (by first | rfl | decide +kernel) ?_
    refine lv_istore (lv' := [(4, .int 1), (3, .int 0), (2, .int 1), (0, .ref mo), (1, .int 2)]) hx hb dX8_findOrders_144 hl (by decide) rfl (fun ls hl => ?_)
    refine lv_iload hx hb dX8_findOrders_146 (lv_at hl 0 rfl) ?_
    refine lv_iload_n hx hb dX8_findOrders_148 rfl (lv_at hl 4 rfl) ?_
    refine lv_icmp_ge (tgt := 183) hx hb dX8_findOrders_149 (by decide) (fun c_25 => absurd c_25 (by decide)) (fun c_25 => ?_)
    refine lv_aload_n hx hb dX8_findOrders_152 rfl (lv_at hl 3 rfl) ?_
    refine va_get (D := D) (ci := 7) (v := .ref mo_before) (C := RX8) (T := TX8) (N := 32) hx hb hts hiX8 hown hK hP 0 rfl rfl 23 (by decide) fl29 (fun _ h9 => h9) rfl dX8_findOrders_153 ?_
    refine lv_iconst (v := 5) hx hb dX8_findOrders_156 (by decide) ?_
    refine lv_aload_n hx hb dX8_findOrders_157 rfl (lv_at hl 3 rfl) ?_
    refine va_get (D := D) (ci := 7) (v := .ref mo_row) (C := RX8) (T := TX8) (N := 32) hx hb hts hiX8 hown hK hP 0 rfl rfl 18 (by decide) fl26 (fun _ h9 => h9) rfl dX8_findOrders_158 ?_
    refine lv_iload_n hx hb dX8_findOrders_161 rfl (lv_at hl 1 rfl) ?_
    refine va_iald hx hb hK hP 2 0 rfl rfl (hs_in (by decide)) dX8_findOrders_162 ?_
    refine hs_topi 0 (by first | rfl | decide +kernel) ?_
    refine lv_imul hx hb dX8_findOrders_163 ?_
    refine hs_topi 0 (by first | rfl | decide +kernel) ?_
    refine lv_aload_n hx hb dX8_findOrders_164 rfl (lv_at hl 3 rfl) ?_
    refine va_get (D := D) (ci := 7) (v := .ref mo_row) (C := RX8) (T := TX8) (N := 32) hx hb hts hiX8 hown hK hP 0 rfl rfl 18 (by decide) fl26 (fun _ h9 => h9) rfl dX8_findOrders_165 ?_
    refine lv_iload hx hb dX8_findOrders_168 (lv_at hl 0 rfl) ?_
    refine va_iald hx hb hK hP 2 0 rfl rfl (hs_in (by decide)) dX8_findOrders_170 ?_
    refine hs_topi 1 (by first | rfl | decide +kernel) ?_
    refine lv_iadd hx hb dX8_findOrders_171 ?_
    refine hs_topi 1 (by first | rfl | decide +kernel) ?_
    refine lv_dup2_11 hx hb dX8_findOrders_172 rfl rfl ?_
    refine va_iald hx hb hK hP 3 0 rfl rfl (hs_in (by decide)) dX8_findOrders_173 ?_
    refine hs_topi 0 (by first | rfl | decide +kernel) ?_
    refine lv_iconst (v := 1) hx hb dX8_findOrders_174 (by decide) ?_
    refine lv_iadd hx hb dX8_findOrders_175 ?_
    refine hs_topi 1 (by first | rfl | decide +kernel) ?_
    refine va_iast hx hb hK hP hD hS 3 0 rfl rfl (hs_in (by decide)) dX8_findOrders_176 (fun H locs hP hD hS => ?_)
    have hP : va_P D vwCl [(mo, .inr (7, [.ref mo_st, .ref mo_at, .ref mo_isKept, .int mo_people, .int mo_halfMany, .ref mo_draft, .int mo_dPeople, .int mo_dHalves, .int mo_toldLines, .int mo_highest, .ref mo_tape, .int mo_taped, .int mo_pos, .int mo_from, .int mo_sort, .int mo_value, .int mo_fault, .int mo_wrongAt, .ref mo_row, .int 1, .int 1, .int 1, .int 2, .ref mo_before, .long mo_justSum, .long mo_toldSum, .long mo_allWays, .ref mo_lanes, .ref mo_sizes, .ref mo_cells, .int mo_torn, .ref mo_had])), (mo_at, .inl (k 0, 44, .inl (hst))), (mo_row, .inl (k 0, 5, .inl (upd (upd (upd (upd hsz 1 0) 0 0) 1 1) 0 0))), (mo_before, .inl (k 0, 25, .inl (upd hsz 1 1)))] H := hP
    have hD : va_D A [(mo, .inr (7, [.ref mo_st, .ref mo_at, .ref mo_isKept, .int mo_people, .int mo_halfMany, .ref mo_draft, .int mo_dPeople, .int mo_dHalves, .int mo_toldLines, .int mo_highest, .ref mo_tape, .int mo_taped, .int mo_pos, .int mo_from, .int mo_sort, .int mo_value, .int mo_fault, .int mo_wrongAt, .ref mo_row, .int 1, .int 1, .int 1, .int 2, .ref mo_before, .long mo_justSum, .long mo_toldSum, .long mo_allWays, .ref mo_lanes, .ref mo_sizes, .ref mo_cells, .int mo_torn, .ref mo_had])), (mo_at, .inl (k 0, 44, .inl (hst))), (mo_row, .inl (k 0, 5, .inl (upd (upd (upd (upd hsz 1 0) 0 0) 1 1) 0 0))), (mo_before, .inl (k 0, 25, .inl (upd hsz 1 1)))] := hD
    refine lv_iinc (v := 2) (lv' := [(4, .int 2), (3, .int 0), (2, .int 1), (0, .ref mo), (1, .int 2)]) hx hb dX8_findOrders_177 hl (k := 0) rfl (by decide) (by decide) rfl (fun ls hl => ?_)
    refine lv_goto (tgt := 146) hx hb dX8_findOrders_180 (by decide) ?_
    refine lv_iload hx hb dX8_findOrders_146 (lv_at hl 0 rfl) ?_
    refine lv_iload_n hx hb dX8_findOrders_148 rfl (lv_at hl 4 rfl) ?_
    refine lv_icmp_ge (tgt := 183) hx hb dX8_findOrders_149 (by decide) (fun c_26 => ?_) (fun c_26 => absurd c_26 (by decide))
    refine lv_iinc (v := 1) (lv' := [(3, .int 1), (4, .int 2), (2, .int 1), (0, .ref mo), (1, .int 2)]) hx hb dX8_findOrders_183 hl (k := 1) rfl (by decide) (by decide) rfl (fun ls hl => ?_)
    refine lv_goto (tgt := 136) hx hb dX8_findOrders_186 (by decide) ?_
    refine lv_iload_n hx hb dX8_findOrders_136 rfl (lv_at hl 0 rfl) ?_
    refine lv_iload_n hx hb dX8_findOrders_137 rfl (lv_at hl 4 rfl) ?_
    refine lv_icmp_ge (tgt := 189) hx hb dX8_findOrders_138 (by decide) (fun c_27 => absurd c_27 (by decide)) (fun c_27 => ?_)
    refine lv_iload_n hx hb dX8_findOrders_141 rfl (lv_at hl 0 rfl) ?_
    refine lv_iconst (v := 1) hx hb dX8_findOrders_142 (by decide) ?_
    refine lv_iadd hx hb dX8_findOrders_143 ?_
    refine hs_topi 2 (by first | rfl | decide +kernel) ?_
    refine lv_istore (lv' := [(4, .int 2), (3, .int 1), (2, .int 1), (0, .ref mo), (1, .int 2)]) hx hb dX8_findOrders_144 hl (by decide) rfl (fun ls hl => ?_)
    refine lv_iload hx hb dX8_findOrders_146 (lv_at hl 0 rfl) ?_
    refine lv_iload_n hx hb dX8_findOrders_148 rfl (lv_at hl 4 rfl) ?_
    refine lv_icmp_ge (tgt := 183) hx hb dX8_findOrders_149 (by decide) (fun c_28 => ?_) (fun c_28 => absurd c_28 (by decide))
    refine lv_iinc (v := 2) (lv' := [(3, .int 2), (4, .int 2), (2, .int 1), (0, .ref mo), (1, .int 2)]) hx hb dX8_findOrders_183 hl (k := 1) rfl (by decide) (by decide) rfl (fun ls hl => ?_)
    refine lv_goto (tgt := 136) hx hb dX8_findOrders_186 (by decide) ?_
    refine lv_iload_n hx hb dX8_findOrders_136 rfl (lv_at hl 0 rfl) ?_
    refine lv_iload_n hx hb dX8_findOrders_137 rfl (lv_at hl 4 rfl) ?_
    refine lv_icmp_ge (tgt := 189) hx hb dX8_findOrders_138 (by decide) (fun c_29 => ?_) (fun c_29 => absurd c_29 (by decide))
    refine lv_iinc (v := 2) (lv' := [(2, .int 2), (3, .int 2), (4, .int 2), (0, .ref mo), (1, .int 2)]) hx hb dX8_findOrders_189 hl (k := 2) rfl (by decide) (by decide) rfl (fun ls hl => ?_)
    refine lv_goto (tgt := 43) hx hb dX8_findOrders_192 (by decide) ?_
    refine lv_iload_n hx hb dX8_findOrders_43 rfl (lv_at hl 0 rfl) ?_
    refine lv_iload_n hx hb dX8_findOrders_44 rfl (lv_at hl 4 rfl) ?_
    refine lv_iload_n hx hb dX8_findOrders_45 rfl (lv_at hl 4 rfl) ?_
    refine hs_pi (va_runS (As := [.int 2, .int 2]) (rest := [.int 2]) ⟨hx, hb, hml, hown, hts⟩ (m_power_2_2 l D k _ ) (va_cwS 2 hts gX8_findOrders_X8_power rfl rfl rfl (by decide +kernel) ⟨Nat.le_of_ble_eq_true rfl, Nat.le_of_ble_eq_true rfl⟩) (hs_preS hK hN (hs_subP (w := []) hP [] rfl) (hD.sub (ws' := []) [] (by decide) rfl)) rfl rfl hl.1 rfl (lv_room (Nat.le_of_ble_eq_true rfl)) dX8_findOrders_46 ⟨Nat.le_of_ble_eq_true rfl, Nat.le_of_ble_eq_true rfl⟩) hP hD hS hA (fun r_30 u_32 H locs hw_31 hP hS => ?_)
    refine hs_topi 4 (hw_31.trans (by first | rfl | decide +kernel | rfl)) ?_
    refine lv_icmp_ge (tgt := 195) hx hb dX8_findOrders_49 (by decide) (fun c_33 => absurd c_33 (by decide)) (fun c_33 => ?_)
    refine lv_aload_n hx hb dX8_findOrders_52 rfl (lv_at hl 3 rfl) ?_
    refine lv_iload_n hx hb dX8_findOrders_53 rfl (lv_at hl 0 rfl) ?_
    refine lv_iload_n hx hb dX8_findOrders_54 rfl (lv_at hl 4 rfl) ?_
    refine hs_ci (va_runV (As := [.int 2, .int 2]) (rest := []) ⟨hx, hb, hml, hown, hts⟩ (m_isOrder_2 l D k _ mo mo_st mo_at mo_isKept mo_people mo_halfMany mo_draft mo_dPeople mo_dHalves mo_toldLines mo_highest mo_tape mo_taped mo_pos mo_from mo_sort mo_value mo_fault mo_wrongAt mo_row 1 1 1 2 mo_before mo_justSum mo_toldSum mo_allWays mo_lanes mo_sizes mo_cells mo_torn mo_had (upd (upd (upd (upd hsz 1 0) 0 0) 1 1) 0 0)) (cwV 2 hts gX8_findOrders_X8_isOrder rfl rfl rfl (by decide +kernel) ⟨Nat.le_of_ble_eq_true rfl, Nat.le_of_ble_eq_true rfl⟩) (hs_preV hK hN (hs_subP (w := [(mo, .inr (7, [.ref mo_st, .ref mo_at, .ref mo_isKept, .int mo_people, .int mo_halfMany, .ref mo_draft, .int mo_dPeople, .int mo_dHalves, .int mo_toldLines, .int mo_highest, .ref mo_tape, .int mo_taped, .int mo_pos, .int mo_from, .int mo_sort, .int mo_value, .int mo_fault, .int mo_wrongAt, .ref mo_row, .int 1, .int 1, .int 1, .int 2, .ref mo_before, .long mo_justSum, .long mo_toldSum, .long mo_allWays, .ref mo_lanes, .ref mo_sizes, .ref mo_cells, .int mo_torn, .ref mo_had])), (mo_row, .inl (k 0, 5, .inl (upd (upd (upd (upd hsz 1 0) 0 0) 1 1) 0 0)))]) hP [0, 2] rfl) (hD.sub (ws' := [(mo, .inr (7, [.ref mo_st, .ref mo_at, .ref mo_isKept, .int mo_people, .int mo_halfMany, .ref mo_draft, .int mo_dPeople, .int mo_dHalves, .int mo_toldLines, .int mo_highest, .ref mo_tape, .int mo_taped, .int mo_pos, .int mo_from, .int mo_sort, .int mo_value, .int mo_fault, .int mo_wrongAt, .ref mo_row, .int 1, .int 1, .int 1, .int 2, .ref mo_before, .long mo_justSum, .long mo_toldSum, .long mo_allWays, .ref mo_lanes, .ref mo_sizes, .ref mo_cells, .int mo_torn, .ref mo_had])), (mo_row, .inl (k 0, 5, .inl (upd (upd (upd (upd hsz 1 0) 0 0) 1 1) 0 0)))]) [0, 2] (by decide) rfl) (ci := 7) (q0 := 0) rfl rfl) rfl rfl hl.1 rfl (lv_room (Nat.le_of_ble_eq_true rfl)) dX8_findOrders_55 ⟨Nat.le_of_ble_eq_true rfl, Nat.le_of_ble_eq_true rfl⟩) hP hD hS hA [0, 2] [1, 3] [(mo_at, .inl (k 0, 44, .inl (hst))), (mo_before, .inl (k 0, 25, .inl (upd hsz 1 1)))] rfl rfl (by decide) (by decide) [2, 0, 3, 1] (fun u_36 => [(mo, .inr (7, [.ref mo_st, .ref mo_at, .ref mo_isKept, .int mo_people, .int mo_halfMany, .ref mo_draft, .int mo_dPeople, .int mo_dHalves, .int mo_toldLines, .int mo_highest, .ref mo_tape, .int mo_taped, .int mo_pos, .int mo_from, .int mo_sort, .int mo_value, .int mo_fault, .int mo_wrongAt, .ref mo_row, .int 1, .int 1, .int 1, .int 2, .ref mo_before, .long mo_justSum, .long mo_toldSum, .long mo_allWays, .ref mo_lanes, .ref mo_sizes, .ref mo_cells, .int mo_torn, .ref mo_had])), (mo_at, .inl (k 0, 44, .inl (hst))), (mo_row, .inl (k 0, 5, .inl (upd (upd (upd (upd (upd (upd hsz 1 0) 0 0) 1 1) 0 0) 1 0) 0 1))), (mo_before, .inl (k 0, 25, .inl (upd hsz 1 1)))]) (fun _ => rfl) (by decide) (fun r_34 u_36 H locs hw_35 hP hD hS => ?_)
    have hP : va_P D vwCl [(mo, .inr (7, [.ref mo_st, .ref mo_at, .ref mo_isKept, .int mo_people, .int mo_halfMany, .ref mo_draft, .int mo_dPeople, .int mo_dHalves, .int mo_toldLines, .int mo_highest, .ref mo_tape, .int mo_taped, .int mo_pos, .int mo_from, .int mo_sort, .int mo_value, .int mo_fault, .int mo_wrongAt, .ref mo_row, .int 1, .int 1, .int 1, .int 2, .ref mo_before, .long mo_justSum, .long mo_toldSum, .long mo_allWays, .ref mo_lanes, .ref mo_sizes, .ref mo_cells, .int mo_torn, .ref mo_had])), (mo_at, .inl (k 0, 44, .inl (hst))), (mo_row, .inl (k 0, 5, .inl (upd (upd (upd (upd (upd (upd hsz 1 0) 0 0) 1 1) 0 0) 1 0) 0 1))), (mo_before, .inl (k 0, 25, .inl (upd hsz 1 1)))] H := hP
    have hD : va_D A [(mo, .inr (7, [.ref mo_st, .ref mo_at, .ref mo_isKept, .int mo_people, .int mo_halfMany, .ref mo_draft, .int mo_dPeople, .int mo_dHalves, .int mo_toldLines, .int mo_highest, .ref mo_tape, .int mo_taped, .int mo_pos, .int mo_from, .int mo_sort, .int mo_value, .int mo_fault, .int mo_wrongAt, .ref mo_row, .int 1, .int 1, .int 1, .int 2, .ref mo_before, .long mo_justSum, .long mo_toldSum, .long mo_allWays, .ref mo_lanes, .ref mo_sizes, .ref mo_cells, .int mo_torn, .ref mo_had])), (mo_at, .inl (k 0, 44, .inl (hst))), (mo_row, .inl (k 0, 5, .inl (upd (upd (upd (upd (upd (upd hsz 1 0) 0 0) 1 1) 0 0) 1 0) 0 1))), (mo_before, .inl (k 0, 25, .inl (upd hsz 1 1)))] := hD
    refine hs_topi 1 (hw_35.trans (by first | rfl | decide +kernel | rfl)) ?_
    refine lv_if_eq (tgt := 189) hx hb dX8_findOrders_58 (by decide) (fun c_37 => absurd c_37 (by decide)) (fun c_37 => ?_)
    refine lv_aload_n hx hb dX8_findOrders_61 rfl (lv_at hl 3 rfl) ?_
    refine lv_iload_n hx hb dX8_findOrders_62 rfl (lv_at hl 4 rfl) ?_
    refine hs_ci (va_runV (As := [.int 2]) (rest := []) ⟨hx, hb, hml, hown, hts⟩ (m_isTold0 l D k _ mo mo_st mo_at mo_isKept mo_people mo_halfMany mo_draft mo_dPeople mo_dHalves mo_toldLines mo_highest mo_tape mo_taped mo_pos mo_from mo_sort mo_value mo_fault mo_wrongAt mo_row 1 1 1 2 mo_before mo_justSum mo_toldSum mo_allWays mo_lanes mo_sizes mo_cells mo_torn mo_had) (cwV 1 hts gX8_findOrders_X8_isTold rfl rfl rfl (by decide +kernel) ⟨Nat.le_of_ble_eq_true rfl, Nat.le_of_ble_eq_true rfl⟩) (hs_preV hK hN (hs_subP (w := [(mo, .inr (7, [.ref mo_st, .ref mo_at, .ref mo_isKept, .int mo_people, .int mo_halfMany, .ref mo_draft, .int mo_dPeople, .int mo_dHalves, .int mo_toldLines, .int mo_highest, .ref mo_tape, .int mo_taped, .int mo_pos, .int mo_from, .int mo_sort, .int mo_value, .int mo_fault, .int mo_wrongAt, .ref mo_row, .int 1, .int 1, .int 1, .int 2, .ref mo_before, .long mo_justSum, .long mo_toldSum, .long mo_allWays, .ref mo_lanes, .ref mo_sizes, .ref mo_cells, .int mo_torn, .ref mo_had])), (mo_at, .inl (k 0, 44, .inl (hst)))]) hP [0, 1] rfl) (hD.sub (ws' := [(mo, .inr (7, [.ref mo_st, .ref mo_at, .ref mo_isKept, .int mo_people, .int mo_halfMany, .ref mo_draft, .int mo_dPeople, .int mo_dHalves, .int mo_toldLines, .int mo_highest, .ref mo_tape, .int mo_taped, .int mo_pos, .int mo_from, .int mo_sort, .int mo_value, .int mo_fault, .int mo_wrongAt, .ref mo_row, .int 1, .int 1, .int 1, .int 2, .ref mo_before, .long mo_justSum, .long mo_toldSum, .long mo_allWays, .ref mo_lanes, .ref mo_sizes, .ref mo_cells, .int mo_torn, .ref mo_had])), (mo_at, .inl (k 0, 44, .inl (hst)))]) [0, 1] (by decide) rfl) (ci := 7) (q0 := 0) rfl rfl) rfl rfl hl.1 rfl (lv_room (Nat.le_of_ble_eq_true rfl)) dX8_findOrders_63 ⟨Nat.le_of_ble_eq_true rfl, Nat.le_of_ble_eq_true rfl⟩) hP hD hS hA [0, 1] [2, 3] [(mo_row, .inl (k 0, 5, .inl (upd (upd (upd (upd (upd (upd hsz 1 0) 0 0) 1 1) 0 0) 1 0) 0 1))), (mo_before, .inl (k 0, 25, .inl (upd hsz 1 1)))] rfl rfl (by decide) (by decide) [2, 3, 0, 1] (fun u_40 => [(mo, .inr (7, [.ref mo_st, .ref mo_at, .ref mo_isKept, .int mo_people, .int mo_halfMany, .ref mo_draft, .int mo_dPeople, .int mo_dHalves, .int mo_toldLines, .int mo_highest, .ref mo_tape, .int mo_taped, .int mo_pos, .int mo_from, .int mo_sort, .int mo_value, .int mo_fault, .int mo_wrongAt, .ref mo_row, .int 1, .int 1, .int 1, .int 2, .ref mo_before, .long mo_justSum, .long mo_toldSum, .long mo_allWays, .ref mo_lanes, .ref mo_sizes, .ref mo_cells, .int mo_torn, .ref mo_had])), (mo_at, .inl (k 0, 44, .inl (hst))), (mo_row, .inl (k 0, 5, .inl (upd (upd (upd (upd (upd (upd hsz 1 0) 0 0) 1 1) 0 0) 1 0) 0 1))), (mo_before, .inl (k 0, 25, .inl (upd hsz 1 1)))]) (fun _ => rfl) (by decide) (fun r_38 u_40 H locs hw_39 hP hD hS => ?_)
    have hP : va_P D vwCl [(mo, .inr (7, [.ref mo_st, .ref mo_at, .ref mo_isKept, .int mo_people, .int mo_halfMany, .ref mo_draft, .int mo_dPeople, .int mo_dHalves, .int mo_toldLines, .int mo_highest, .ref mo_tape, .int mo_taped, .int mo_pos, .int mo_from, .int mo_sort, .int mo_value, .int mo_fault, .int mo_wrongAt, .ref mo_row, .int 1, .int 1, .int 1, .int 2, .ref mo_before, .long mo_justSum, .long mo_toldSum, .long mo_allWays, .ref mo_lanes, .ref mo_sizes, .ref mo_cells, .int mo_torn, .ref mo_had])), (mo_at, .inl (k 0, 44, .inl (hst))), (mo_row, .inl (k 0, 5, .inl (upd (upd (upd (upd (upd (upd hsz 1 0) 0 0) 1 1) 0 0) 1 0) 0 1))), (mo_before, .inl (k 0, 25, .inl (upd hsz 1 1)))] H := hP
    have hD : va_D A [(mo, .inr (7, [.ref mo_st, .ref mo_at, .ref mo_isKept, .int mo_people, .int mo_halfMany, .ref mo_draft, .int mo_dPeople, .int mo_dHalves, .int mo_toldLines, .int mo_highest, .ref mo_tape, .int mo_taped, .int mo_pos, .int mo_from, .int mo_sort, .int mo_value, .int mo_fault, .int mo_wrongAt, .ref mo_row, .int 1, .int 1, .int 1, .int 2, .ref mo_before, .long mo_justSum, .long mo_toldSum, .long mo_allWays, .ref mo_lanes, .ref mo_sizes, .ref mo_cells, .int mo_torn, .ref mo_had])), (mo_at, .inl (k 0, 44, .inl (hst))), (mo_row, .inl (k 0, 5, .inl (upd (upd (upd (upd (upd (upd hsz 1 0) 0 0) 1 1) 0 0) 1 0) 0 1))), (mo_before, .inl (k 0, 25, .inl (upd hsz 1 1)))] := hD
    refine hs_topi 1 (hw_39.trans (by first | rfl | decide +kernel | rfl)) ?_
    refine lv_if_eq (tgt := 189) hx hb dX8_findOrders_66 (by decide) (fun c_41 => absurd c_41 (by decide)) (fun c_41 => ?_)
    refine lv_aload_n hx hb dX8_findOrders_69 rfl (lv_at hl 3 rfl) ?_
    refine lv_aload_n hx hb dX8_findOrders_70 rfl (lv_at hl 3 rfl) ?_
    refine va_get (D := D) (ci := 7) (v := .int 1) (C := RX8) (T := TX8) (N := 32) hx hb hts hiX8 hown hK hP 0 rfl rfl 19 (by decide) fl149 (fun _ h9 => h9) rfl dX8_findOrders_71 ?_
    refine lv_if_ne (tgt := 81) hx hb dX8_findOrders_74 (by decide) (fun c_42 => ?_) (fun c_42 => absurd c_42 (by decide))
    refine lv_aload_n hx hb dX8_findOrders_81 rfl (lv_at hl 3 rfl) ?_
    refine va_get (D := D) (ci := 7) (v := .int 1) (C := RX8) (T := TX8) (N := 32) hx hb hts hiX8 hown hK hP 0 rfl rfl 20 (by decide) fl204 (fun _ h9 => h9) rfl dX8_findOrders_82 ?_
    refine va_put (D := D) (ci := 7) (v := .int 1) (ty := .int) (C := RX8) (T := TX8) (N := 32) hx hb hts hiX8 tyX8 tyX8_ok nmX8 hown hK hP hD hS 0 rfl rfl 20 (by decide) fl204 (fun _ h9 => h9) rfl (by decide +kernel) rfl rfl (Nat.le_of_ble_eq_true rfl) dX8_findOrders_85 (fun H locs hP hD hS => ?_)
    have hP : va_P D vwCl [(mo, .inr (7, [.ref mo_st, .ref mo_at, .ref mo_isKept, .int mo_people, .int mo_halfMany, .ref mo_draft, .int mo_dPeople, .int mo_dHalves, .int mo_toldLines, .int mo_highest, .ref mo_tape, .int mo_taped, .int mo_pos, .int mo_from, .int mo_sort, .int mo_value, .int mo_fault, .int mo_wrongAt, .ref mo_row, .int 1, .int 1, .int 1, .int 2, .ref mo_before, .long mo_justSum, .long mo_toldSum, .long mo_allWays, .ref mo_lanes, .ref mo_sizes, .ref mo_cells, .int mo_torn, .ref mo_had])), (mo_at, .inl (k 0, 44, .inl (hst))), (mo_row, .inl (k 0, 5, .inl (upd (upd (upd (upd (upd (upd hsz 1 0) 0 0) 1 1) 0 0) 1 0) 0 1))), (mo_before, .inl (k 0, 25, .inl (upd hsz 1 1)))] H := hP
    have hD : va_D A [(mo, .inr (7, [.ref mo_st, .ref mo_at, .ref mo_isKept, .int mo_people, .int mo_halfMany, .ref mo_draft, .int mo_dPeople, .int mo_dHalves, .int mo_toldLines, .int mo_highest, .ref mo_tape, .int mo_taped, .int mo_pos, .int mo_from, .int mo_sort, .int mo_value, .int mo_fault, .int mo_wrongAt, .ref mo_row, .int 1, .int 1, .int 1, .int 2, .ref mo_before, .long mo_justSum, .long mo_toldSum, .long mo_allWays, .ref mo_lanes, .ref mo_sizes, .ref mo_cells, .int mo_torn, .ref mo_had])), (mo_at, .inl (k 0, 44, .inl (hst))), (mo_row, .inl (k 0, 5, .inl (upd (upd (upd (upd (upd (upd hsz 1 0) 0 0) 1 1) 0 0) 1 0) 0 1))), (mo_before, .inl (k 0, 25, .inl (upd hsz 1 1)))] := hD
    refine lv_aload_n hx hb dX8_findOrders_88 rfl (lv_at hl 3 rfl) ?_
    refine lv_dup hx hb dX8_findOrders_89 rfl ?_
    refine va_get (D := D) (ci := 7) (v := .int 1) (C := RX8) (T := TX8) (N := 32) hx hb hts hiX8 hown hK hP 0 rfl rfl 19 (by decide) fl149 (fun _ h9 => h9) rfl dX8_findOrders_90 ?_
    refine lv_iconst (v := 1) hx hb dX8_findOrders_93 (by decide) ?_
    refine lv_iadd hx hb dX8_findOrders_94 ?_
    refine hs_topi 2 (by first | rfl | decide +kernel) ?_
    refine va_put (D := D) (ci := 7) (v := .int 2) (ty := .int) (C := RX8) (T := TX8) (N := 32) hx hb hts hiX8 tyX8 tyX8_ok nmX8 hown hK hP hD hS 0 rfl rfl 19 (by decide) fl149 (fun _ h9 => h9) rfl (by decide +kernel) rfl rfl (Nat.le_of_ble_eq_true rfl) dX8_findOrders_95 (fun H locs hP hD hS => ?_)
    have hP : va_P D vwCl [(mo, .inr (7, [.ref mo_st, .ref mo_at, .ref mo_isKept, .int mo_people, .int mo_halfMany, .ref mo_draft, .int mo_dPeople, .int mo_dHalves, .int mo_toldLines, .int mo_highest, .ref mo_tape, .int mo_taped, .int mo_pos, .int mo_from, .int mo_sort, .int mo_value, .int mo_fault, .int mo_wrongAt, .ref mo_row, .int 2, .int 1, .int 1, .int 2, .ref mo_before, .long mo_justSum, .long mo_toldSum, .long mo_allWays, .ref mo_lanes, .ref mo_sizes, .ref mo_cells, .int mo_torn, .ref mo_had])), (mo_at, .inl (k 0, 44, .inl (hst))), (mo_row, .inl (k 0, 5, .inl (upd (upd (upd (upd (upd (upd hsz 1 0) 0 0) 1 1) 0 0) 1 0) 0 1))), (mo_before, .inl (k 0, 25, .inl (upd hsz 1 1)))] H := hP
    have hD : va_D A [(mo, .inr (7, [.ref mo_st, .ref mo_at, .ref mo_isKept, .int mo_people, .int mo_halfMany, .ref mo_draft, .int mo_dPeople, .int mo_dHalves, .int mo_toldLines, .int mo_highest, .ref mo_tape, .int mo_taped, .int mo_pos, .int mo_from, .int mo_sort, .int mo_value, .int mo_fault, .int mo_wrongAt, .ref mo_row, .int 2, .int 1, .int 1, .int 2, .ref mo_before, .long mo_justSum, .long mo_toldSum, .long mo_allWays, .ref mo_lanes, .ref mo_sizes, .ref mo_cells, .int mo_torn, .ref mo_had])), (mo_at, .inl (k 0, 44, .inl (hst))), (mo_row, .inl (k 0, 5, .inl (upd (upd (upd (upd (upd (upd hsz 1 0) 0 0) 1 1) 0 0) 1 0) 0 1))), (mo_before, .inl (k 0, 25, .inl (upd hsz 1 1)))] := hD
    refine lv_aload_n hx hb dX8_findOrders_98 rfl (lv_at hl 3 rfl) ?_
    refine lv_dup hx hb dX8_findOrders_99 rfl ?_
    refine va_get (D := D) (ci := 7) (v := .int 1) (C := RX8) (T := TX8) (N := 32) hx hb hts hiX8 hown hK hP 0 rfl rfl 21 (by decide) fl207 (fun _ h9 => h9) rfl dX8_findOrders_100 ?_
    refine lv_iconst (v := 1) hx hb dX8_findOrders_103 (by decide) ?_
    refine lv_aload_n hx hb dX8_findOrders_104 rfl (lv_at hl 3 rfl) ?_
    refine va_get (D := D) (ci := 7) (v := .ref mo_row) (C := RX8) (T := TX8) (N := 32) hx hb hts hiX8 hown hK hP 0 rfl rfl 18 (by decide) fl26 (fun _ h9 => h9) rfl dX8_findOrders_105 ?_
    refine lv_iconst (v := 0) hx hb dX8_findOrders_108 (by decide) ?_
    refine va_iald hx hb hK hP 2 0 rfl rfl (hs_in (by decide)) dX8_findOrders_109 ?_
    refine hs_topi 1 (by first | rfl | decide +kernel) ?_
    refine lv_ishl hx hb dX8_findOrders_110 ?_
    refine hs_topi 2 (by first | rfl | decide +kernel) ?_
    refine lv_ior hx hb dX8_findOrders_111 ?_
    refine hs_topi 3 (by first | rfl | decide +kernel) ?_
    refine va_put (D := D) (ci := 7) (v := .int 3) (ty := .int) (C := RX8) (T := TX8) (N := 32) hx hb hts hiX8 tyX8 tyX8_ok nmX8 hown hK hP hD hS 0 rfl rfl 21 (by decide) fl207 (fun _ h9 => h9) rfl (by decide +kernel) rfl rfl (Nat.le_of_ble_eq_true rfl) dX8_findOrders_112 (fun H locs hP hD hS => ?_)
    have hP : va_P D vwCl [(mo, .inr (7, [.ref mo_st, .ref mo_at, .ref mo_isKept, .int mo_people, .int mo_halfMany, .ref mo_draft, .int mo_dPeople, .int mo_dHalves, .int mo_toldLines, .int mo_highest, .ref mo_tape, .int mo_taped, .int mo_pos, .int mo_from, .int mo_sort, .int mo_value, .int mo_fault, .int mo_wrongAt, .ref mo_row, .int 2, .int 1, .int 3, .int 2, .ref mo_before, .long mo_justSum, .long mo_toldSum, .long mo_allWays, .ref mo_lanes, .ref mo_sizes, .ref mo_cells, .int mo_torn, .ref mo_had])), (mo_at, .inl (k 0, 44, .inl (hst))), (mo_row, .inl (k 0, 5, .inl (upd (upd (upd (upd (upd (upd hsz 1 0) 0 0) 1 1) 0 0) 1 0) 0 1))), (mo_before, .inl (k 0, 25, .inl (upd hsz 1 1)))] H := hP
    have hD : va_D A [(mo, .inr (7, [.ref mo_st, .ref mo_at, .ref mo_isKept, .int mo_people, .int mo_halfMany, .ref mo_draft, .int mo_dPeople, .int mo_dHalves, .int mo_toldLines, .int mo_highest, .ref mo_tape, .int mo_taped, .int mo_pos, .int mo_from, .int mo_sort, .int mo_value, .int mo_fault, .int mo_wrongAt, .ref mo_row, .int 2, .int 1, .int 3, .int 2, .ref mo_before, .long mo_justSum, .long mo_toldSum, .long mo_allWays, .ref mo_lanes, .ref mo_sizes, .ref mo_cells, .int mo_torn, .ref mo_had])), (mo_at, .inl (k 0, 44, .inl (hst))), (mo_row, .inl (k 0, 5, .inl (upd (upd (upd (upd (upd (upd hsz 1 0) 0 0) 1 1) 0 0) 1 0) 0 1))), (mo_before, .inl (k 0, 25, .inl (upd hsz 1 1)))] := hD
    refine lv_aload_n hx hb dX8_findOrders_115 rfl (lv_at hl 3 rfl) ?_
    refine lv_dup hx hb dX8_findOrders_116 rfl ?_
    refine va_get (D := D) (ci := 7) (v := .int 2) (C := RX8) (T := TX8) (N := 32) hx hb hts hiX8 hown hK hP 0 rfl rfl 22 (by decide) fl210 (fun _ h9 => h9) rfl dX8_findOrders_117 ?_
    refine lv_iconst (v := 1) hx hb dX8_findOrders_120 (by decide) ?_
    refine lv_aload_n hx hb dX8_findOrders_121 rfl (lv_at hl 3 rfl) ?_
    refine va_get (D := D) (ci := 7) (v := .ref mo_row) (C := RX8) (T := TX8) (N := 32) hx hb hts hiX8 hown hK hP 0 rfl rfl 18 (by decide) fl26 (fun _ h9 => h9) rfl dX8_findOrders_122 ?_
    refine lv_iload_n hx hb dX8_findOrders_125 rfl (lv_at hl 4 rfl) ?_
    refine lv_iconst (v := 1) hx hb dX8_findOrders_126 (by decide) ?_
    refine lv_isub hx hb dX8_findOrders_127 ?_
    refine hs_topi 1 (by first | rfl | decide +kernel) ?_
    refine va_iald hx hb hK hP 2 0 rfl rfl (hs_in (by decide)) dX8_findOrders_128 ?_
    refine hs_topi 0 (by first | rfl | decide +kernel) ?_
    refine lv_ishl hx hb dX8_findOrders_129 ?_
    refine hs_topi 1 (by first | rfl | decide +kernel) ?_
    refine lv_ior hx hb dX8_findOrders_130 ?_
    refine hs_topi 3 (by first | rfl | decide +kernel) ?_
    refine va_put (D := D) (ci := 7) (v := .int 3) (ty := .int) (C := RX8) (T := TX8) (N := 32) hx hb hts hiX8 tyX8 tyX8_ok nmX8 hown hK hP hD hS 0 rfl rfl 22 (by decide) fl210 (fun _ h9 => h9) rfl (by decide +kernel) rfl rfl (Nat.le_of_ble_eq_true rfl) dX8_findOrders_131 (fun H locs hP hD hS => ?_)
    have hP : va_P D vwCl [(mo, .inr (7, [.ref mo_st, .ref mo_at, .ref mo_isKept, .int mo_people, .int mo_halfMany, .ref mo_draft, .int mo_dPeople, .int mo_dHalves, .int mo_toldLines, .int mo_highest, .ref mo_tape, .int mo_taped, .int mo_pos, .int mo_from, .int mo_sort, .int mo_value, .int mo_fault, .int mo_wrongAt, .ref mo_row, .int 2, .int 1, .int 3, .int 3, .ref mo_before, .long mo_justSum, .long mo_toldSum, .long mo_allWays, .ref mo_lanes, .ref mo_sizes, .ref mo_cells, .int mo_torn, .ref mo_had])), (mo_at, .inl (k 0, 44, .inl (hst))), (mo_row, .inl (k 0, 5, .inl (upd (upd (upd (upd (upd (upd hsz 1 0) 0 0) 1 1) 0 0) 1 0) 0 1))), (mo_before, .inl (k 0, 25, .inl (upd hsz 1 1)))] H := hP
    have hD : va_D A [(mo, .inr (7, [.ref mo_st, .ref mo_at, .ref mo_isKept, .int mo_people, .int mo_halfMany, .ref mo_draft, .int mo_dPeople, .int mo_dHalves, .int mo_toldLines, .int mo_highest, .ref mo_tape, .int mo_taped, .int mo_pos, .int mo_from, .int mo_sort, .int mo_value, .int mo_fault, .int mo_wrongAt, .ref mo_row, .int 2, .int 1, .int 3, .int 3, .ref mo_before, .long mo_justSum, .long mo_toldSum, .long mo_allWays, .ref mo_lanes, .ref mo_sizes, .ref mo_cells, .int mo_torn, .ref mo_had])), (mo_at, .inl (k 0, 44, .inl (hst))), (mo_row, .inl (k 0, 5, .inl (upd (upd (upd (upd (upd (upd hsz 1 0) 0 0) 1 1) 0 0) 1 0) 0 1))), (mo_before, .inl (k 0, 25, .inl (upd hsz 1 1)))] := hD
    refine lv_iconst (v := 0) hx hb dX8_findOrders_134 (by decide) ?_
    refine lv_istore_n (lv' := [(3, .int 0), (2, .int 2), (4, .int 2), (0, .ref mo), (1, .int 2)]) hx hb dX8_findOrders_135 rfl hl (by decide) rfl (fun ls hl => ?_)
    refine lv_iload_n hx hb dX8_findOrders_136 rfl (lv_at hl 0 rfl) ?_
    refine lv_iload_n hx hb dX8_findOrders_137 rfl (lv_at hl 4 rfl) ?_
    refine lv_icmp_ge (tgt := 189) hx hb dX8_findOrders_138 (by decide) (fun c_43 => absurd c_43 (by decide)) (fun c_43 => ?_)
    refine lv_iload_n hx hb dX8_findOrders_141 rfl (lv_at hl 0 rfl) ?_
    refine lv_iconst (v := 1) hx hb dX8_findOrders_142 (by decide) ?_
    refine lv_iadd hx hb dX8_findOrders_143 ?_
    refine hs_topi 1 (by first | rfl | decide +kernel) ?_
    refine lv_istore (lv' := [(4, .int 1), (3, .int 0), (2, .int 2), (0, .ref mo), (1, .int 2)]) hx hb dX8_findOrders_144 hl (by decide) rfl (fun ls hl => ?_)
    refine lv_iload hx hb dX8_findOrders_146 (lv_at hl 0 rfl) ?_
    refine lv_iload_n hx hb dX8_findOrders_148 rfl (lv_at hl 4 rfl) ?_
    refine lv_icmp_ge (tgt := 183) hx hb dX8_findOrders_149 (by decide) (fun c_44 => absurd c_44 (by decide)) (fun c_44 => ?_)
    refine lv_aload_n hx hb dX8_findOrders_152 rfl (lv_at hl 3 rfl) ?_
    refine va_get (D := D) (ci := 7) (v := .ref mo_before) (C := RX8) (T := TX8) (N := 32) hx hb hts hiX8 hown hK hP 0 rfl rfl 23 (by decide) fl29 (fun _ h9 => h9) rfl dX8_findOrders_153 ?_
    refine lv_iconst (v := 5) hx hb dX8_findOrders_156 (by decide) ?_
    refine lv_aload_n hx hb dX8_findOrders_157 rfl (lv_at hl 3 rfl) ?_
    refine va_get (D := D) (ci := 7) (v := .ref mo_row) (C := RX8) (T := TX8) (N := 32) hx hb hts hiX8 hown hK hP 0 rfl rfl 18 (by decide) fl26 (fun _ h9 => h9) rfl dX8_findOrders_158 ?_
    refine lv_iload_n hx hb dX8_findOrders_161 rfl (lv_at hl 1 rfl) ?_
    refine va_iald hx hb hK hP 2 0 rfl rfl (hs_in (by decide)) dX8_findOrders_162 ?_
    refine hs_topi 1 (by first | rfl | decide +kernel) ?_
    refine lv_imul hx hb dX8_findOrders_163 ?_
    refine hs_topi 5 (by first | rfl | decide +kernel) ?_
    refine lv_aload_n hx hb dX8_findOrders_164 rfl (lv_at hl 3 rfl) ?_
    refine va_get (D := D) (ci := 7) (v := .ref mo_row) (C := RX8) (T := TX8) (N := 32) hx hb hts hiX8 hown hK hP 0 rfl rfl 18 (by decide) fl26 (fun _ h9 => h9) rfl dX8_findOrders_165 ?_
    refine lv_iload hx hb dX8_findOrders_168 (lv_at hl 0 rfl) ?_
    refine va_iald hx hb hK hP 2 0 rfl rfl (hs_in (by decide)) dX8_findOrders_170 ?_
    refine hs_topi 0 (by first | rfl | decide +kernel) ?_
    refine lv_iadd hx hb dX8_findOrders_171 ?_
    refine hs_topi 5 (by first | rfl | decide +kernel) ?_
    refine lv_dup2_11 hx hb dX8_findOrders_172 rfl rfl ?_
    refine va_iald hx hb hK hP 3 0 rfl rfl (hs_in (by decide)) dX8_findOrders_173 ?_
    refine hs_topi 0 (by first | rfl | decide +kernel) ?_
    refine lv_iconst (v := 1) hx hb dX8_findOrders_174 (by decide) ?_
    refine lv_iadd hx hb dX8_findOrders_175 ?_
    refine hs_topi 1 (by first | rfl | decide +kernel) ?_
    refine va_iast hx hb hK hP hD hS 3 0 rfl rfl (hs_in (by decide)) dX8_findOrders_176 (fun H locs hP hD hS => ?_)
    have hP : va_P D vwCl [(mo, .inr (7, [.ref mo_st, .ref mo_at, .ref mo_isKept, .int mo_people, .int mo_halfMany, .ref mo_draft, .int mo_dPeople, .int mo_dHalves, .int mo_toldLines, .int mo_highest, .ref mo_tape, .int mo_taped, .int mo_pos, .int mo_from, .int mo_sort, .int mo_value, .int mo_fault, .int mo_wrongAt, .ref mo_row, .int 2, .int 1, .int 3, .int 3, .ref mo_before, .long mo_justSum, .long mo_toldSum, .long mo_allWays, .ref mo_lanes, .ref mo_sizes, .ref mo_cells, .int mo_torn, .ref mo_had])), (mo_at, .inl (k 0, 44, .inl (hst))), (mo_row, .inl (k 0, 5, .inl (upd (upd (upd (upd (upd (upd hsz 1 0) 0 0) 1 1) 0 0) 1 0) 0 1))), (mo_before, .inl (k 0, 25, .inl (upd (upd hsz 1 1) 5 1)))] H := hP
    have hD : va_D A [(mo, .inr (7, [.ref mo_st, .ref mo_at, .ref mo_isKept, .int mo_people, .int mo_halfMany, .ref mo_draft, .int mo_dPeople, .int mo_dHalves, .int mo_toldLines, .int mo_highest, .ref mo_tape, .int mo_taped, .int mo_pos, .int mo_from, .int mo_sort, .int mo_value, .int mo_fault, .int mo_wrongAt, .ref mo_row, .int 2, .int 1, .int 3, .int 3, .ref mo_before, .long mo_justSum, .long mo_toldSum, .long mo_allWays, .ref mo_lanes, .ref mo_sizes, .ref mo_cells, .int mo_torn, .ref mo_had])), (mo_at, .inl (k 0, 44, .inl (hst))), (mo_row, .inl (k 0, 5, .inl (upd (upd (upd (upd (upd (upd hsz 1 0) 0 0) 1 1) 0 0) 1 0) 0 1))), (mo_before, .inl (k 0, 25, .inl (upd (upd hsz 1 1) 5 1)))] := hD
    refine lv_iinc (v := 2) (lv' := [(4, .int 2), (3, .int 0), (2, .int 2), (0, .ref mo), (1, .int 2)]) hx hb dX8_findOrders_177 hl (k := 0) rfl (by decide) (by decide) rfl (fun ls hl => ?_)
    refine lv_goto (tgt := 146) hx hb dX8_findOrders_180 (by decide) ?_
    refine lv_iload hx hb dX8_findOrders_146 (lv_at hl 0 rfl) ?_
    refine lv_iload_n hx hb dX8_findOrders_148 rfl (lv_at hl 4 rfl) ?_
    refine lv_icmp_ge (tgt := 183) hx hb dX8_findOrders_149 (by decide) (fun c_45 => ?_) (fun c_45 => absurd c_45 (by decide))
    refine lv_iinc (v := 1) (lv' := [(3, .int 1), (4, .int 2), (2, .int 2), (0, .ref mo), (1, .int 2)]) hx hb dX8_findOrders_183 hl (k := 1) rfl (by decide) (by decide) rfl (fun ls hl => ?_)
    refine lv_goto (tgt := 136) hx hb dX8_findOrders_186 (by decide) ?_
    refine lv_iload_n hx hb dX8_findOrders_136 rfl (lv_at hl 0 rfl) ?_
    refine lv_iload_n hx hb dX8_findOrders_137 rfl (lv_at hl 4 rfl) ?_
    refine lv_icmp_ge (tgt := 189) hx hb dX8_findOrders_138 (by decide) (fun c_46 => absurd c_46 (by decide)) (fun c_46 => ?_)
    refine lv_iload_n hx hb dX8_findOrders_141 rfl (lv_at hl 0 rfl) ?_
    refine lv_iconst (v := 1) hx hb dX8_findOrders_142 (by decide) ?_
    refine lv_iadd hx hb dX8_findOrders_143 ?_
    refine hs_topi 2 (by first | rfl | decide +kernel) ?_
    refine lv_istore (lv' := [(4, .int 2), (3, .int 1), (2, .int 2), (0, .ref mo), (1, .int 2)]) hx hb dX8_findOrders_144 hl (by decide) rfl (fun ls hl => ?_)
    refine lv_iload hx hb dX8_findOrders_146 (lv_at hl 0 rfl) ?_
    refine lv_iload_n hx hb dX8_findOrders_148 rfl (lv_at hl 4 rfl) ?_
    refine lv_icmp_ge (tgt := 183) hx hb dX8_findOrders_149 (by decide) (fun c_47 => ?_) (fun c_47 => absurd c_47 (by decide))
    refine lv_iinc (v := 2) (lv' := [(3, .int 2), (4, .int 2), (2, .int 2), (0, .ref mo), (1, .int 2)]) hx hb dX8_findOrders_183 hl (k := 1) rfl (by decide) (by decide) rfl (fun ls hl => ?_)
    refine lv_goto (tgt := 136) hx hb dX8_findOrders_186 (by decide) ?_
    refine lv_iload_n hx hb dX8_findOrders_136 rfl (lv_at hl 0 rfl) ?_
    refine lv_iload_n hx hb dX8_findOrders_137 rfl (lv_at hl 4 rfl) ?_
    refine lv_icmp_ge (tgt := 189) hx hb dX8_findOrders_138 (by decide) (fun c_48 => ?_) (fun c_48 => absurd c_48 (by decide))
    refine lv_iinc (v := 3) (lv' := [(2, .int 3), (3, .int 2), (4, .int 2), (0, .ref mo), (1, .int 2)]) hx hb dX8_findOrders_189 hl (k := 2) rfl (by decide) (by decide) rfl (fun ls hl => ?_)
    refine lv_goto (tgt := 43) hx hb dX8_findOrders_192 (by decide) ?_
    refine lv_iload_n hx hb dX8_findOrders_43 rfl (lv_at hl 0 rfl) ?_
    refine lv_iload_n hx hb dX8_findOrders_44 rfl (lv_at hl 4 rfl) ?_
    refine lv_iload_n hx hb dX8_findOrders_45 rfl (lv_at hl 4 rfl) ?_
    refine hs_pi (va_runS (As := [.int 2, .int 2]) (rest := [.int 3]) ⟨hx, hb, hml, hown, hts⟩ (m_power_2_2 l D k _ ) (va_cwS 2 hts gX8_findOrders_X8_power rfl rfl rfl (by decide +kernel) ⟨Nat.le_of_ble_eq_true rfl, Nat.le_of_ble_eq_true rfl⟩) (hs_preS hK hN (hs_subP (w := []) hP [] rfl) (hD.sub (ws' := []) [] (by decide) rfl)) rfl rfl hl.1 rfl (lv_room (Nat.le_of_ble_eq_true rfl)) dX8_findOrders_46 ⟨Nat.le_of_ble_eq_true rfl, Nat.le_of_ble_eq_true rfl⟩) hP hD hS hA (fun r_49 u_51 H locs hw_50 hP hS => ?_)
    refine hs_topi 4 (hw_50.trans (by first | rfl | decide +kernel | rfl)) ?_
    refine lv_icmp_ge (tgt := 195) hx hb dX8_findOrders_49 (by decide) (fun c_52 => absurd c_52 (by decide)) (fun c_52 => ?_)
    refine lv_aload_n hx hb dX8_findOrders_52 rfl (lv_at hl 3 rfl) ?_
    refine lv_iload_n hx hb dX8_findOrders_53 rfl (lv_at hl 0 rfl) ?_
    refine lv_iload_n hx hb dX8_findOrders_54 rfl (lv_at hl 4 rfl) ?_
    refine hs_ci (va_runV (As := [.int 3, .int 2]) (rest := []) ⟨hx, hb, hml, hown, hts⟩ (m_isOrder_3 l D k _ mo mo_st mo_at mo_isKept mo_people mo_halfMany mo_draft mo_dPeople mo_dHalves mo_toldLines mo_highest mo_tape mo_taped mo_pos mo_from mo_sort mo_value mo_fault mo_wrongAt mo_row 2 1 3 3 mo_before mo_justSum mo_toldSum mo_allWays mo_lanes mo_sizes mo_cells mo_torn mo_had (upd (upd (upd (upd (upd (upd hsz 1 0) 0 0) 1 1) 0 0) 1 0) 0 1)) (cwV 2 hts gX8_findOrders_X8_isOrder rfl rfl rfl (by decide +kernel) ⟨Nat.le_of_ble_eq_true rfl, Nat.le_of_ble_eq_true rfl⟩) (hs_preV hK hN (hs_subP (w := [(mo, .inr (7, [.ref mo_st, .ref mo_at, .ref mo_isKept, .int mo_people, .int mo_halfMany, .ref mo_draft, .int mo_dPeople, .int mo_dHalves, .int mo_toldLines, .int mo_highest, .ref mo_tape, .int mo_taped, .int mo_pos, .int mo_from, .int mo_sort, .int mo_value, .int mo_fault, .int mo_wrongAt, .ref mo_row, .int 2, .int 1, .int 3, .int 3, .ref mo_before, .long mo_justSum, .long mo_toldSum, .long mo_allWays, .ref mo_lanes, .ref mo_sizes, .ref mo_cells, .int mo_torn, .ref mo_had])), (mo_row, .inl (k 0, 5, .inl (upd (upd (upd (upd (upd (upd hsz 1 0) 0 0) 1 1) 0 0) 1 0) 0 1)))]) hP [0, 2] rfl) (hD.sub (ws' := [(mo, .inr (7, [.ref mo_st, .ref mo_at, .ref mo_isKept, .int mo_people, .int mo_halfMany, .ref mo_draft, .int mo_dPeople, .int mo_dHalves, .int mo_toldLines, .int mo_highest, .ref mo_tape, .int mo_taped, .int mo_pos, .int mo_from, .int mo_sort, .int mo_value, .int mo_fault, .int mo_wrongAt, .ref mo_row, .int 2, .int 1, .int 3, .int 3, .ref mo_before, .long mo_justSum, .long mo_toldSum, .long mo_allWays, .ref mo_lanes, .ref mo_sizes, .ref mo_cells, .int mo_torn, .ref mo_had])), (mo_row, .inl (k 0, 5, .inl (upd (upd (upd (upd (upd (upd hsz 1 0) 0 0) 1 1) 0 0) 1 0) 0 1)))]) [0, 2] (by decide) rfl) (ci := 7) (q0 := 0) rfl rfl) rfl rfl hl.1 rfl (lv_room (Nat.le_of_ble_eq_true rfl)) dX8_findOrders_55 ⟨Nat.le_of_ble_eq_true rfl, Nat.le_of_ble_eq_true rfl⟩) hP hD hS hA [0, 2] [1, 3] [(mo_at, .inl (k 0, 44, .inl (hst))), (mo_before, .inl (k 0, 25, .inl (upd (upd hsz 1 1) 5 1)))] rfl rfl (by decide) (by decide) [2, 0, 3, 1] (fun u_55 => [(mo, .inr (7, [.ref mo_st, .ref mo_at, .ref mo_isKept, .int mo_people, .int mo_halfMany, .ref mo_draft, .int mo_dPeople, .int mo_dHalves, .int mo_toldLines, .int mo_highest, .ref mo_tape, .int mo_taped, .int mo_pos, .int mo_from, .int mo_sort, .int mo_value, .int mo_fault, .int mo_wrongAt, .ref mo_row, .int 2, .int 1, .int 3, .int 3, .ref mo_before, .long mo_justSum, .long mo_toldSum, .long mo_allWays, .ref mo_lanes, .ref mo_sizes, .ref mo_cells, .int mo_torn, .ref mo_had])), (mo_at, .inl (k 0, 44, .inl (hst))), (mo_row, .inl (k 0, 5, .inl (upd (upd (upd (upd (upd (upd (upd (upd hsz 1 0) 0 0) 1 1) 0 0) 1 0) 0 1) 1 1) 0 1))), (mo_before, .inl (k 0, 25, .inl (upd (upd hsz 1 1) 5 1)))]) (fun _ => rfl) (by decide) (fun r_53 u_55 H locs hw_54 hP hD hS => ?_)
    have hP : va_P D vwCl [(mo, .inr (7, [.ref mo_st, .ref mo_at, .ref mo_isKept, .int mo_people, .int mo_halfMany, .ref mo_draft, .int mo_dPeople, .int mo_dHalves, .int mo_toldLines, .int mo_highest, .ref mo_tape, .int mo_taped, .int mo_pos, .int mo_from, .int mo_sort, .int mo_value, .int mo_fault, .int mo_wrongAt, .ref mo_row, .int 2, .int 1, .int 3, .int 3, .ref mo_before, .long mo_justSum, .long mo_toldSum, .long mo_allWays, .ref mo_lanes, .ref mo_sizes, .ref mo_cells, .int mo_torn, .ref mo_had])), (mo_at, .inl (k 0, 44, .inl (hst))), (mo_row, .inl (k 0, 5, .inl (upd (upd (upd (upd (upd (upd (upd (upd hsz 1 0) 0 0) 1 1) 0 0) 1 0) 0 1) 1 1) 0 1))), (mo_before, .inl (k 0, 25, .inl (upd (upd hsz 1 1) 5 1)))] H := hP
    have hD : va_D A [(mo, .inr (7, [.ref mo_st, .ref mo_at, .ref mo_isKept, .int mo_people, .int mo_halfMany, .ref mo_draft, .int mo_dPeople, .int mo_dHalves, .int mo_toldLines, .int mo_highest, .ref mo_tape, .int mo_taped, .int mo_pos, .int mo_from, .int mo_sort, .int mo_value, .int mo_fault, .int mo_wrongAt, .ref mo_row, .int 2, .int 1, .int 3, .int 3, .ref mo_before, .long mo_justSum, .long mo_toldSum, .long mo_allWays, .ref mo_lanes, .ref mo_sizes, .ref mo_cells, .int mo_torn, .ref mo_had])), (mo_at, .inl (k 0, 44, .inl (hst))), (mo_row, .inl (k 0, 5, .inl (upd (upd (upd (upd (upd (upd (upd (upd hsz 1 0) 0 0) 1 1) 0 0) 1 0) 0 1) 1 1) 0 1))), (mo_before, .inl (k 0, 25, .inl (upd (upd hsz 1 1) 5 1)))] := hD
    refine hs_topi 0 (hw_54.trans (by first | rfl | decide +kernel | rfl)) ?_
    refine lv_if_eq (tgt := 189) hx hb dX8_findOrders_58 (by decide) (fun c_56 => ?_) (fun c_56 => absurd c_56 (by decide))
    refine lv_iinc (v := 4) (lv' := [(2, .int 4), (3, .int 2), (4, .int 2), (0, .ref mo), (1, .int 2)]) hx hb dX8_findOrders_189 hl (k := 0) rfl (by decide) (by decide) rfl (fun ls hl => ?_)
    refine lv_goto (tgt := 43) hx hb dX8_findOrders_192 (by decide) ?_
    refine lv_iload_n hx hb dX8_findOrders_43 rfl (lv_at hl 0 rfl) ?_
    refine lv_iload_n hx hb dX8_findOrders_44 rfl (lv_at hl 4 rfl) ?_
    refine lv_iload_n hx hb dX8_findOrders_45 rfl (lv_at hl 4 rfl) ?_
    refine hs_pi (va_runS (As := [.int 2, .int 2]) (rest := [.int 4]) ⟨hx, hb, hml, hown, hts⟩ (m_power_2_2 l D k _ ) (va_cwS 2 hts gX8_findOrders_X8_power rfl rfl rfl (by decide +kernel) ⟨Nat.le_of_ble_eq_true rfl, Nat.le_of_ble_eq_true rfl⟩) (hs_preS hK hN (hs_subP (w := []) hP [] rfl) (hD.sub (ws' := []) [] (by decide) rfl)) rfl rfl hl.1 rfl (lv_room (Nat.le_of_ble_eq_true rfl)) dX8_findOrders_46 ⟨Nat.le_of_ble_eq_true rfl, Nat.le_of_ble_eq_true rfl⟩) hP hD hS hA (fun r_57 u_59 H locs hw_58 hP hS => ?_)
    refine hs_topi 4 (hw_58.trans (by first | rfl | decide +kernel | rfl)) ?_
    refine lv_icmp_ge (tgt := 195) hx hb dX8_findOrders_49 (by decide) (fun c_60 => ?_) (fun c_60 => absurd c_60 (by decide))
    exact hs_vret hx hb hr hlocks hK hP hD hS () [0, 1, 2, 3] rfl (by decide) dX8_findOrders_195 (trivial)

set_option maxHeartbeats 4000000 in
set_option maxRecDepth 100000 in
theorem m_findCourt0 (l : Launch) (D : va_G) (k : Nat → ClassId) (sz : Nat) (mo : Nat) (mo_st : Nat) (mo_at : Nat) (mo_isKept : Nat) (mo_halfMany : Int32) (mo_draft : Nat) (mo_dPeople : Int32) (mo_dHalves : Int32) (mo_toldLines : Int32) (mo_highest : Int32) (mo_tape : Nat) (mo_taped : Int32) (mo_pos : Int32) (mo_from : Int32) (mo_sort : Int32) (mo_value : Int32) (mo_fault : Int32) (mo_wrongAt : Int32) (mo_row : Nat) (mo_orderMany : Int32) (mo_firstOrder : Int32) (mo_lightest : Int32) (mo_heaviest : Int32) (mo_before : Nat) (mo_justSum : Int64) (mo_toldSum : Int64) (mo_allWays : Int64) (mo_lanes : Nat) (mo_sizes : Nat) (mo_cells : Nat) (mo_torn : Int32) (mo_had : Nat) (v : Int32) (kk : Int32)  : MV l yX8_findCourt wsX8_findCourt ({ frames := 1, cells := 0, slots := 0, locals := 23 }) D k [.ref mo, .int v, .int kk] [(mo, .inr (7, [.ref mo_st, .ref mo_at, .ref mo_isKept, .int 0, .int mo_halfMany, .ref mo_draft, .int mo_dPeople, .int mo_dHalves, .int mo_toldLines, .int mo_highest, .ref mo_tape, .int mo_taped, .int mo_pos, .int mo_from, .int mo_sort, .int mo_value, .int mo_fault, .int mo_wrongAt, .ref mo_row, .int mo_orderMany, .int mo_firstOrder, .int mo_lightest, .int mo_heaviest, .ref mo_before, .long mo_justSum, .long mo_toldSum, .long mo_allWays, .ref mo_lanes, .ref mo_sizes, .ref mo_cells, .int mo_torn, .ref mo_had])), (mo_st, .inl (k 0, 132, .inl (hst))), (mo_at, .inl (k 0, 44, .inl (hsz)))] sz (fun (u : Unit) => True) (fun (u : Unit) => [(mo, .inr (7, [.ref mo_st, .ref mo_at, .ref mo_isKept, .int 0, .int mo_halfMany, .ref mo_draft, .int mo_dPeople, .int mo_dHalves, .int mo_toldLines, .int mo_highest, .ref mo_tape, .int mo_taped, .int mo_pos, .int mo_from, .int mo_sort, .int mo_value, .int mo_fault, .int mo_wrongAt, .ref mo_row, .int mo_orderMany, .int mo_firstOrder, .int mo_lightest, .int mo_heaviest, .ref mo_before, .long 0, .long 0, .long 1, .ref mo_lanes, .ref mo_sizes, .ref mo_cells, .int mo_torn, .ref mo_had])), (mo_st, .inl (k 0, 132, .inl (hst))), (mo_at, .inl (k 0, 44, .inl (hst)))]) := by
  refine Met.ofW (cc := cX8_findCourt) (maxL := 8) (ret := none) (by decide) rfl ?_
  intro p e s m args below meth c s₁ B hml hv
  obtain ⟨rfl, hsz, hP, hK, hD0, hN⟩ := hv
  have hx := B.exec
  have hb := B.bytes
  have hr := B.returns
  have hlocks := B.notSynchronized
  have hts := atoms_spec (ws := wsX8_findCourt) B.pre
  have hown : s.vm.findClass RX8 = some m.cls := findClass_of_methodNamed B.named
  have hiX8 : ∀ w ∈ u_ws RX8 TX8 32, w ∈ wsX8_findCourt := by decide +kernel
  have fl249 := hts (.fieldLink RX8 249 "HalfScalesModel" "justSum" "J") (by decide +kernel)
  have fl253 := hts (.fieldLink RX8 253 "HalfScalesModel" "toldSum" "J") (by decide +kernel)
  have fl63 := hts (.fieldLink RX8 63 "HalfScalesModel" "people" "I") (by decide +kernel)
  have fl256 := hts (.fieldLink RX8 256 "HalfScalesModel" "allWays" "J") (by decide +kernel)
  subst hsz
  have hD := hD0.self (sz := s.heap.size)
  generalize hAe : va_A [(mo, .inr (7, [.ref mo_st, .ref mo_at, .ref mo_isKept, .int 0, .int mo_halfMany, .ref mo_draft, .int mo_dPeople, .int mo_dHalves, .int mo_toldLines, .int mo_highest, .ref mo_tape, .int mo_taped, .int mo_pos, .int mo_from, .int mo_sort, .int mo_value, .int mo_fault, .int mo_wrongAt, .ref mo_row, .int mo_orderMany, .int mo_firstOrder, .int mo_lightest, .int mo_heaviest, .ref mo_before, .long mo_justSum, .long mo_toldSum, .long mo_allWays, .ref mo_lanes, .ref mo_sizes, .ref mo_cells, .int mo_torn, .ref mo_had])), (mo_st, .inl (k 0, 132, .inl (hst))), (mo_at, .inl (k 0, 44, .inl (hsz)))] s.heap.size = A at hD ⊢
  have hA : ∀ q : Nat, s.heap.size ≤ q → A q := fun q h => by rw [← hAe]; exact Or.inr h
  have hS : va_S A s.heap s.heap [] := va_S.rf
  have hl := lv_entry ([.ref mo, .int v, .int kk]) (n := 8) (Nat.le_of_ble_eq_true rfl)
  rw [lg_entry_eq]
  generalize (lg_sl ([.ref mo, .int v, .int kk]) ++ List.replicate (8 - (lg_sl ([.ref mo, .int v, .int kk])).length) Slot.unset).toArray = ls at hl ⊢
  have hl : lv_has ls 8 [(0, .ref mo), (1, .int v), (2, .int kk)] := hl
  have hP : va_P D vwCl [(mo, .inr (7, [.ref mo_st, .ref mo_at, .ref mo_isKept, .int 0, .int mo_halfMany, .ref mo_draft, .int mo_dPeople, .int mo_dHalves, .int mo_toldLines, .int mo_highest, .ref mo_tape, .int mo_taped, .int mo_pos, .int mo_from, .int mo_sort, .int mo_value, .int mo_fault, .int mo_wrongAt, .ref mo_row, .int mo_orderMany, .int mo_firstOrder, .int mo_lightest, .int mo_heaviest, .ref mo_before, .long mo_justSum, .long mo_toldSum, .long mo_allWays, .ref mo_lanes, .ref mo_sizes, .ref mo_cells, .int mo_torn, .ref mo_had])), (mo_st, .inl (k 0, 132, .inl (hst))), (mo_at, .inl (k 0, 44, .inl (hsz)))] s.heap := hP
  refine lv_aload_n hx hb dX8_findCourt_0 rfl (lv_at hl 0 rfl) ?_
  refine hs_cv (va_runV (As := []) (rest := []) ⟨hx, hb, hml, hown, hts⟩ (m_starts l D k _ mo mo_st mo_at mo_isKept 0 mo_halfMany mo_draft mo_dPeople mo_dHalves mo_toldLines mo_highest mo_tape mo_taped mo_pos mo_from mo_sort mo_value mo_fault mo_wrongAt mo_row mo_orderMany mo_firstOrder mo_lightest mo_heaviest mo_before mo_justSum mo_toldSum mo_allWays mo_lanes mo_sizes mo_cells mo_torn mo_had) (cwV 0 hts gX8_findCourt_X8_starts rfl rfl rfl (by decide +kernel) ⟨Nat.le_of_ble_eq_true rfl, Nat.le_of_ble_eq_true rfl⟩) (hs_preV hK hN (hs_subP (w := [(mo, .inr (7, [.ref mo_st, .ref mo_at, .ref mo_isKept, .int 0, .int mo_halfMany, .ref mo_draft, .int mo_dPeople, .int mo_dHalves, .int mo_toldLines, .int mo_highest, .ref mo_tape, .int mo_taped, .int mo_pos, .int mo_from, .int mo_sort, .int mo_value, .int mo_fault, .int mo_wrongAt, .ref mo_row, .int mo_orderMany, .int mo_firstOrder, .int mo_lightest, .int mo_heaviest, .ref mo_before, .long mo_justSum, .long mo_toldSum, .long mo_allWays, .ref mo_lanes, .ref mo_sizes, .ref mo_cells, .int mo_torn, .ref mo_had])), (mo_st, .inl (k 0, 132, .inl (hst))), (mo_at, .inl (k 0, 44, .inl (hsz)))]) hP [0, 1, 2] rfl) (hD.sub (ws' := [(mo, .inr (7, [.ref mo_st, .ref mo_at, .ref mo_isKept, .int 0, .int mo_halfMany, .ref mo_draft, .int mo_dPeople, .int mo_dHalves, .int mo_toldLines, .int mo_highest, .ref mo_tape, .int mo_taped, .int mo_pos, .int mo_from, .int mo_sort, .int mo_value, .int mo_fault, .int mo_wrongAt, .ref mo_row, .int mo_orderMany, .int mo_firstOrder, .int mo_lightest, .int mo_heaviest, .ref mo_before, .long mo_justSum, .long mo_toldSum, .long mo_allWays, .ref mo_lanes, .ref mo_sizes, .ref mo_cells, .int mo_torn, .ref mo_had])), (mo_st, .inl (k 0, 132, .inl (hst))), (mo_at, .inl (k 0, 44, .inl (hsz)))]) [0, 1, 2] (by decide) rfl) (ci := 7) (q0 := 0) rfl rfl) rfl rfl hl.1 rfl (lv_room (Nat.le_of_ble_eq_true rfl)) dX8_findCourt_1 ⟨Nat.le_of_ble_eq_true rfl, Nat.le_of_ble_eq_true rfl⟩) hP hD hS hA [0, 1, 2] [] [] rfl rfl (by decide) (by decide) [0, 1, 2] (fun u_3 => [(mo, .inr (7, [.ref mo_st, .ref mo_at, .ref mo_isKept, .int 0, .int mo_halfMany, .ref mo_draft, .int mo_dPeople, .int mo_dHalves, .int mo_toldLines, .int mo_highest, .ref mo_tape, .int mo_taped, .int mo_pos, .int mo_from, .int mo_sort, .int mo_value, .int mo_fault, .int mo_wrongAt, .ref mo_row, .int mo_orderMany, .int mo_firstOrder, .int mo_lightest, .int mo_heaviest, .ref mo_before, .long mo_justSum, .long mo_toldSum, .long mo_allWays, .ref mo_lanes, .ref mo_sizes, .ref mo_cells, .int mo_torn, .ref mo_had])), (mo_st, .inl (k 0, 132, .inl (hst))), (mo_at, .inl (k 0, 44, .inl (hst)))]) (fun _ => rfl) (by decide) (fun u_3 H locs hw_2 hP hD hS => ?_)
  have hP : va_P D vwCl [(mo, .inr (7, [.ref mo_st, .ref mo_at, .ref mo_isKept, .int 0, .int mo_halfMany, .ref mo_draft, .int mo_dPeople, .int mo_dHalves, .int mo_toldLines, .int mo_highest, .ref mo_tape, .int mo_taped, .int mo_pos, .int mo_from, .int mo_sort, .int mo_value, .int mo_fault, .int mo_wrongAt, .ref mo_row, .int mo_orderMany, .int mo_firstOrder, .int mo_lightest, .int mo_heaviest, .ref mo_before, .long mo_justSum, .long mo_toldSum, .long mo_allWays, .ref mo_lanes, .ref mo_sizes, .ref mo_cells, .int mo_torn, .ref mo_had])), (mo_st, .inl (k 0, 132, .inl (hst))), (mo_at, .inl (k 0, 44, .inl (hst)))] H := hP
  have hD : va_D A [(mo, .inr (7, [.ref mo_st, .ref mo_at, .ref mo_isKept, .int 0, .int mo_halfMany, .ref mo_draft, .int mo_dPeople, .int mo_dHalves, .int mo_toldLines, .int mo_highest, .ref mo_tape, .int mo_taped, .int mo_pos, .int mo_from, .int mo_sort, .int mo_value, .int mo_fault, .int mo_wrongAt, .ref mo_row, .int mo_orderMany, .int mo_firstOrder, .int mo_lightest, .int mo_heaviest, .ref mo_before, .long mo_justSum, .long mo_toldSum, .long mo_allWays, .ref mo_lanes, .ref mo_sizes, .ref mo_cells, .int mo_torn, .ref mo_had])), (mo_st, .inl (k 0, 132, .inl (hst))), (mo_at, .inl (k 0, 44, .inl (hst)))] := hD
  refine lv_aload_n hx hb dX8_findCourt_4 rfl (lv_at hl 0 rfl) ?_
  refine lv_iload_n hx hb dX8_findCourt_5 rfl (lv_at hl 2 rfl) ?_
  refine hs_ci (va_runV (As := [.int kk]) (rest := []) ⟨hx, hb, hml, hown, hts⟩ (m_justTo0 l D k _ mo mo_st mo_at mo_isKept mo_halfMany mo_draft mo_dPeople mo_dHalves mo_toldLines mo_highest mo_tape mo_taped mo_pos mo_from mo_sort mo_value mo_fault mo_wrongAt mo_row mo_orderMany mo_firstOrder mo_lightest mo_heaviest mo_before mo_justSum mo_toldSum mo_allWays mo_lanes mo_sizes mo_cells mo_torn mo_had kk) (cwV 1 hts gX8_findCourt_X8_justTo rfl rfl rfl (by decide +kernel) ⟨Nat.le_of_ble_eq_true rfl, Nat.le_of_ble_eq_true rfl⟩) (hs_preV hK hN (hs_subP (w := [(mo, .inr (7, [.ref mo_st, .ref mo_at, .ref mo_isKept, .int 0, .int mo_halfMany, .ref mo_draft, .int mo_dPeople, .int mo_dHalves, .int mo_toldLines, .int mo_highest, .ref mo_tape, .int mo_taped, .int mo_pos, .int mo_from, .int mo_sort, .int mo_value, .int mo_fault, .int mo_wrongAt, .ref mo_row, .int mo_orderMany, .int mo_firstOrder, .int mo_lightest, .int mo_heaviest, .ref mo_before, .long mo_justSum, .long mo_toldSum, .long mo_allWays, .ref mo_lanes, .ref mo_sizes, .ref mo_cells, .int mo_torn, .ref mo_had]))]) hP [0] rfl) (hD.sub (ws' := [(mo, .inr (7, [.ref mo_st, .ref mo_at, .ref mo_isKept, .int 0, .int mo_halfMany, .ref mo_draft, .int mo_dPeople, .int mo_dHalves, .int mo_toldLines, .int mo_highest, .ref mo_tape, .int mo_taped, .int mo_pos, .int mo_from, .int mo_sort, .int mo_value, .int mo_fault, .int mo_wrongAt, .ref mo_row, .int mo_orderMany, .int mo_firstOrder, .int mo_lightest, .int mo_heaviest, .ref mo_before, .long mo_justSum, .long mo_toldSum, .long mo_allWays, .ref mo_lanes, .ref mo_sizes, .ref mo_cells, .int mo_torn, .ref mo_had]))]) [0] (by decide) rfl) (ci := 7) (q0 := 0) rfl rfl) rfl rfl hl.1 rfl (lv_room (Nat.le_of_ble_eq_true rfl)) dX8_findCourt_6 ⟨Nat.le_of_ble_eq_true rfl, Nat.le_of_ble_eq_true rfl⟩) hP hD hS hA [0] [1, 2] [(mo_st, .inl (k 0, 132, .inl (hst))), (mo_at, .inl (k 0, 44, .inl (hst)))] rfl rfl (by decide) (by decide) [2, 0, 1] (fun u_6 => [(mo, .inr (7, [.ref mo_st, .ref mo_at, .ref mo_isKept, .int 0, .int mo_halfMany, .ref mo_draft, .int mo_dPeople, .int mo_dHalves, .int mo_toldLines, .int mo_highest, .ref mo_tape, .int mo_taped, .int mo_pos, .int mo_from, .int mo_sort, .int mo_value, .int mo_fault, .int mo_wrongAt, .ref mo_row, .int mo_orderMany, .int mo_firstOrder, .int mo_lightest, .int mo_heaviest, .ref mo_before, .long mo_justSum, .long mo_toldSum, .long mo_allWays, .ref mo_lanes, .ref mo_sizes, .ref mo_cells, .int mo_torn, .ref mo_had])), (mo_st, .inl (k 0, 132, .inl (hst))), (mo_at, .inl (k 0, 44, .inl (hst)))]) (fun _ => rfl) (by decide) (fun r_4 u_6 H locs hw_5 hP hD hS => ?_)
  have hP : va_P D vwCl [(mo, .inr (7, [.ref mo_st, .ref mo_at, .ref mo_isKept, .int 0, .int mo_halfMany, .ref mo_draft, .int mo_dPeople, .int mo_dHalves, .int mo_toldLines, .int mo_highest, .ref mo_tape, .int mo_taped, .int mo_pos, .int mo_from, .int mo_sort, .int mo_value, .int mo_fault, .int mo_wrongAt, .ref mo_row, .int mo_orderMany, .int mo_firstOrder, .int mo_lightest, .int mo_heaviest, .ref mo_before, .long mo_justSum, .long mo_toldSum, .long mo_allWays, .ref mo_lanes, .ref mo_sizes, .ref mo_cells, .int mo_torn, .ref mo_had])), (mo_st, .inl (k 0, 132, .inl (hst))), (mo_at, .inl (k 0, 44, .inl (hst)))] H := hP
  have hD : va_D A [(mo, .inr (7, [.ref mo_st, .ref mo_at, .ref mo_isKept, .int 0, .int mo_halfMany, .ref mo_draft, .int mo_dPeople, .int mo_dHalves, .int mo_toldLines, .int mo_highest, .ref mo_tape, .int mo_taped, .int mo_pos, .int mo_from, .int mo_sort, .int mo_value, .int mo_fault, .int mo_wrongAt, .ref mo_row, .int mo_orderMany, .int mo_firstOrder, .int mo_lightest, .int mo_heaviest, .ref mo_before, .long mo_justSum, .long mo_toldSum, .long mo_allWays, .ref mo_lanes, .ref mo_sizes, .ref mo_cells, .int mo_torn, .ref mo_had])), (mo_st, .inl (k 0, 132, .inl (hst))), (mo_at, .inl (k 0, 44, .inl (hst)))] := hD
  refine hs_topi 0 (hw_5.trans (by first | rfl | decide +kernel | rfl)) ?_
  refine lv_istore_n (lv' := [(3, .int 0), (0, .ref mo), (1, .int v), (2, .int kk)]) hx hb dX8_findCourt_9 rfl hl (by decide) rfl (fun ls hl => ?_)
  refine lv_aload_n hx hb dX8_findCourt_10 rfl (lv_at hl 1 rfl) ?_
  refine lv_lconst (v := 0) hx hb dX8_findCourt_11 (by decide) ?_
  refine va_put (D := D) (ci := 7) (v := .long 0) (ty := .long) (C := RX8) (T := TX8) (N := 32) hx hb hts hiX8 tyX8 tyX8_ok nmX8 hown hK hP hD hS 0 rfl rfl 24 (by decide) fl249 (fun _ h9 => h9) rfl (by decide +kernel) rfl rfl (Nat.le_of_ble_eq_true rfl) dX8_findCourt_12 (fun H locs hP hD hS => ?_)
  have hP : va_P D vwCl [(mo, .inr (7, [.ref mo_st, .ref mo_at, .ref mo_isKept, .int 0, .int mo_halfMany, .ref mo_draft, .int mo_dPeople, .int mo_dHalves, .int mo_toldLines, .int mo_highest, .ref mo_tape, .int mo_taped, .int mo_pos, .int mo_from, .int mo_sort, .int mo_value, .int mo_fault, .int mo_wrongAt, .ref mo_row, .int mo_orderMany, .int mo_firstOrder, .int mo_lightest, .int mo_heaviest, .ref mo_before, .long 0, .long mo_toldSum, .long mo_allWays, .ref mo_lanes, .ref mo_sizes, .ref mo_cells, .int mo_torn, .ref mo_had])), (mo_st, .inl (k 0, 132, .inl (hst))), (mo_at, .inl (k 0, 44, .inl (hst)))] H := hP
  have hD : va_D A [(mo, .inr (7, [.ref mo_st, .ref mo_at, .ref mo_isKept, .int 0, .int mo_halfMany, .ref mo_draft, .int mo_dPeople, .int mo_dHalves, .int mo_toldLines, .int mo_highest, .ref mo_tape, .int mo_taped, .int mo_pos, .int mo_from, .int mo_sort, .int mo_value, .int mo_fault, .int mo_wrongAt, .ref mo_row, .int mo_orderMany, .int mo_firstOrder, .int mo_lightest, .int mo_heaviest, .ref mo_before, .long 0, .long mo_toldSum, .long mo_allWays, .ref mo_lanes, .ref mo_sizes, .ref mo_cells, .int mo_torn, .ref mo_had])), (mo_st, .inl (k 0, 132, .inl (hst))), (mo_at, .inl (k 0, 44, .inl (hst)))] := hD
  refine lv_aload_n hx hb dX8_findCourt_15 rfl (lv_at hl 1 rfl) ?_
  refine lv_lconst (v := 0) hx hb dX8_findCourt_16 (by decide) ?_
  refine va_put (D := D) (ci := 7) (v := .long 0) (ty := .long) (C := RX8) (T := TX8) (N := 32) hx hb hts hiX8 tyX8 tyX8_ok nmX8 hown hK hP hD hS 0 rfl rfl 25 (by decide) fl253 (fun _ h9 => h9) rfl (by decide +kernel) rfl rfl (Nat.le_of_ble_eq_true rfl) dX8_findCourt_17 (fun H locs hP hD hS => ?_)
  have hP : va_P D vwCl [(mo, .inr (7, [.ref mo_st, .ref mo_at, .ref mo_isKept, .int 0, .int mo_halfMany, .ref mo_draft, .int mo_dPeople, .int mo_dHalves, .int mo_toldLines, .int mo_highest, .ref mo_tape, .int mo_taped, .int mo_pos, .int mo_from, .int mo_sort, .int mo_value, .int mo_fault, .int mo_wrongAt, .ref mo_row, .int mo_orderMany, .int mo_firstOrder, .int mo_lightest, .int mo_heaviest, .ref mo_before, .long 0, .long 0, .long mo_allWays, .ref mo_lanes, .ref mo_sizes, .ref mo_cells, .int mo_torn, .ref mo_had])), (mo_st, .inl (k 0, 132, .inl (hst))), (mo_at, .inl (k 0, 44, .inl (hst)))] H := hP
  have hD : va_D A [(mo, .inr (7, [.ref mo_st, .ref mo_at, .ref mo_isKept, .int 0, .int mo_halfMany, .ref mo_draft, .int mo_dPeople, .int mo_dHalves, .int mo_toldLines, .int mo_highest, .ref mo_tape, .int mo_taped, .int mo_pos, .int mo_from, .int mo_sort, .int mo_value, .int mo_fault, .int mo_wrongAt, .ref mo_row, .int mo_orderMany, .int mo_firstOrder, .int mo_lightest, .int mo_heaviest, .ref mo_before, .long 0, .long 0, .long mo_allWays, .ref mo_lanes, .ref mo_sizes, .ref mo_cells, .int mo_torn, .ref mo_had])), (mo_st, .inl (k 0, 132, .inl (hst))), (mo_at, .inl (k 0, 44, .inl (hst)))] := hD
  refine lv_aload_n hx hb dX8_findCourt_20 rfl (lv_at hl 1 rfl) ?_
  refine lv_bipush (v := 10) hx hb dX8_findCourt_21 (by decide) ?_
  refine lv_aload_n hx hb dX8_findCourt_23 rfl (lv_at hl 1 rfl) ?_
  refine va_get (D := D) (ci := 7) (v := .int 0) (C := RX8) (T := TX8) (N := 32) hx hb hts hiX8 hown hK hP 0 rfl rfl 3 (by decide) fl63 (fun _ h9 => h9) rfl dX8_findCourt_24 ?_
  refine hs_pi (va_runS (As := [.int 10, .int 0]) (rest := [.ref mo]) ⟨hx, hb, hml, hown, hts⟩ (m_power_10_0 l D k _ ) (va_cwS 2 hts gX8_findCourt_X8_power rfl rfl rfl (by decide +kernel) ⟨Nat.le_of_ble_eq_true rfl, Nat.le_of_ble_eq_true rfl⟩) (hs_preS hK hN (hs_subP (w := []) hP [] rfl) (hD.sub (ws' := []) [] (by decide) rfl)) rfl rfl hl.1 rfl (lv_room (Nat.le_of_ble_eq_true rfl)) dX8_findCourt_27 ⟨Nat.le_of_ble_eq_true rfl, Nat.le_of_ble_eq_true rfl⟩) hP hD hS hA (fun r_7 u_9 H locs hw_8 hP hS => ?_)
  refine hs_topi 1 (hw_8.trans (by first | rfl | decide +kernel | rfl)) ?_
  refine lv_i2l (v := 1) hx hb dX8_findCourt_30 (by decide +kernel) ?_
  refine va_put (D := D) (ci := 7) (v := .long 1) (ty := .long) (C := RX8) (T := TX8) (N := 32) hx hb hts hiX8 tyX8 tyX8_ok nmX8 hown hK hP hD hS 0 rfl rfl 26 (by decide) fl256 (fun _ h9 => h9) rfl (by decide +kernel) rfl rfl (Nat.le_of_ble_eq_true rfl) dX8_findCourt_31 (fun H locs hP hD hS => ?_)
  have hP : va_P D vwCl [(mo, .inr (7, [.ref mo_st, .ref mo_at, .ref mo_isKept, .int 0, .int mo_halfMany, .ref mo_draft, .int mo_dPeople, .int mo_dHalves, .int mo_toldLines, .int mo_highest, .ref mo_tape, .int mo_taped, .int mo_pos, .int mo_from, .int mo_sort, .int mo_value, .int mo_fault, .int mo_wrongAt, .ref mo_row, .int mo_orderMany, .int mo_firstOrder, .int mo_lightest, .int mo_heaviest, .ref mo_before, .long 0, .long 0, .long 1, .ref mo_lanes, .ref mo_sizes, .ref mo_cells, .int mo_torn, .ref mo_had])), (mo_st, .inl (k 0, 132, .inl (hst))), (mo_at, .inl (k 0, 44, .inl (hst)))] H := hP
  have hD : va_D A [(mo, .inr (7, [.ref mo_st, .ref mo_at, .ref mo_isKept, .int 0, .int mo_halfMany, .ref mo_draft, .int mo_dPeople, .int mo_dHalves, .int mo_toldLines, .int mo_highest, .ref mo_tape, .int mo_taped, .int mo_pos, .int mo_from, .int mo_sort, .int mo_value, .int mo_fault, .int mo_wrongAt, .ref mo_row, .int mo_orderMany, .int mo_firstOrder, .int mo_lightest, .int mo_heaviest, .ref mo_before, .long 0, .long 0, .long 1, .ref mo_lanes, .ref mo_sizes, .ref mo_cells, .int mo_torn, .ref mo_had])), (mo_st, .inl (k 0, 132, .inl (hst))), (mo_at, .inl (k 0, 44, .inl (hst)))] := hD
  refine lv_iconst (v := 0) hx hb dX8_findCourt_34 (by decide) ?_
  refine lv_istore (lv' := [(4, .int 0), (3, .int 0), (0, .ref mo), (1, .int v), (2, .int kk)]) hx hb dX8_findCourt_35 hl (by decide) rfl (fun ls hl => ?_)
  refine lv_iload hx hb dX8_findCourt_37 (lv_at hl 0 rfl) ?_
  refine lv_iconst (v := 1) hx hb dX8_findCourt_39 (by decide) ?_
  refine lv_aload_n hx hb dX8_findCourt_40 rfl (lv_at hl 2 rfl) ?_
  refine va_get (D := D) (ci := 7) (v := .int 0) (C := RX8) (T := TX8) (N := 32) hx hb hts hiX8 hown hK hP 0 rfl rfl 3 (by decide) fl63 (fun _ h9 => h9) rfl dX8_findCourt_41 ?_
  refine lv_ishl hx hb dX8_findCourt_44 ?_
  refine hs_topi 1 (by first | rfl | decide +kernel) ?_
  refine lv_icmp_ge (tgt := 151) hx hb dX8_findCourt_45 (by decide) (fun c_10 => absurd c_10 (by decide)) (fun c_10 => ?_)
  refine lv_lconst (v := 1) hx hb dX8_findCourt_48 (by decide) ?_
  refine lv_lstore (lv' := [(5, .long 1), (4, .int 0), (3, .int 0), (0, .ref mo), (1, .int v), (2, .int kk)]) hx hb dX8_findCourt_49 hl (by decide) rfl (fun ls hl => ?_)
  refine lv_iconst (v := 0) hx hb dX8_findCourt_51 (by decide) ?_
  refine lv_istore (lv' := [(7, .int 0), (5, .long 1), (4, .int 0), (3, .int 0), (0, .ref mo), (1, .int v), (2, .int kk)]) hx hb dX8_findCourt_52 hl (by decide) rfl (fun ls hl => ?_)
  refine lv_iload hx hb dX8_findCourt_54 (lv_at hl 0 rfl) ?_
  refine lv_aload_n hx hb dX8_findCourt_56 rfl (lv_at hl 4 rfl) ?_
  refine va_get (D := D) (ci := 7) (v := .int 0) (C := RX8) (T := TX8) (N := 32) hx hb hts hiX8 hown hK hP 0 rfl rfl 3 (by decide) fl63 (fun _ h9 => h9) rfl dX8_findCourt_57 ?_
  refine lv_icmp_ge (tgt := 95) hx hb dX8_findCourt_60 (by decide) (fun c_11 => ?_) (fun c_11 => absurd c_11 (by decide))
  refine lv_iload_n hx hb dX8_findCourt_95 rfl (lv_at hl 3 rfl) ?_
  refine lv_iload hx hb dX8_findCourt_96 (lv_at hl 2 rfl) ?_
  refine lv_ixor hx hb dX8_findCourt_98 ?_
  refine hs_topi 0 (by first | rfl | decide +kernel) ?_
  refine hs_pi (va_runS (As := [.int 0]) (rest := []) ⟨hx, hb, hml, hown, hts⟩ (m_bitsOf0 l D k _ ) (va_cwS 1 hts gX8_findCourt_X8_bitsOf rfl rfl rfl (by decide +kernel) ⟨Nat.le_of_ble_eq_true rfl, Nat.le_of_ble_eq_true rfl⟩) (hs_preS hK hN (hs_subP (w := []) hP [] rfl) (hD.sub (ws' := []) [] (by decide) rfl)) rfl rfl hl.1 rfl (lv_room (Nat.le_of_ble_eq_true rfl)) dX8_findCourt_99 ⟨Nat.le_of_ble_eq_true rfl, Nat.le_of_ble_eq_true rfl⟩) hP hD hS hA (fun r_12 u_14 H locs hw_13 hP hS => ?_)
  refine hs_topi 0 (hw_13.trans (by first | rfl | decide +kernel | rfl)) ?_
  refine lv_istore (lv' := [(7, .int 0), (5, .long 1), (4, .int 0), (3, .int 0), (0, .ref mo), (1, .int v), (2, .int kk)]) hx hb dX8_findCourt_102 hl (by decide) rfl (fun ls hl => ?_)
  refine lv_aload_n hx hb dX8_findCourt_104 rfl (lv_at hl 4 rfl) ?_
  refine lv_dup hx hb dX8_findCourt_105 rfl ?_
  refine va_get (D := D) (ci := 7) (v := .long 0) (C := RX8) (T := TX8) (N := 32) hx hb hts hiX8 hown hK hP 0 rfl rfl 24 (by decide) fl249 (fun _ h9 => h9) rfl dX8_findCourt_106 ?_
  refine lv_iconst (v := 2) hx hb dX8_findCourt_109 (by decide) ?_
  refine lv_iload hx hb dX8_findCourt_110 (lv_at hl 0 rfl) ?_
  refine lv_imul hx hb dX8_findCourt_112 ?_
  refine hs_topi 0 (by first | rfl | decide +kernel) ?_
  refine lv_aload_n hx hb dX8_findCourt_113 rfl (lv_at hl 4 rfl) ?_
  refine va_get (D := D) (ci := 7) (v := .int 0) (C := RX8) (T := TX8) (N := 32) hx hb hts hiX8 hown hK hP 0 rfl rfl 3 (by decide) fl63 (fun _ h9 => h9) rfl dX8_findCourt_114 ?_
  refine lv_icmp_le (tgt := 125) hx hb dX8_findCourt_117 (by decide) (fun c_15 => ?_) (fun c_15 => absurd c_15 (by decide))
  refine lv_lconst (v := 0) hx hb dX8_findCourt_125 (by decide) ?_
  refine lv_ladd hx hb dX8_findCourt_126 ?_
  refine hs_topl 0 (by first | rfl | decide +kernel) ?_
  refine va_put (D := D) (ci := 7) (v := .long 0) (ty := .long) (C := RX8) (T := TX8) (N := 32) hx hb hts hiX8 tyX8 tyX8_ok nmX8 hown hK hP hD hS 0 rfl rfl 24 (by decide) fl249 (fun _ h9 => h9) rfl (by decide +kernel) rfl rfl (Nat.le_of_ble_eq_true rfl) dX8_findCourt_127 (fun H locs hP hD hS => ?_)
  have hP : va_P D vwCl [(mo, .inr (7, [.ref mo_st, .ref mo_at, .ref mo_isKept, .int 0, .int mo_halfMany, .ref mo_draft, .int mo_dPeople, .int mo_dHalves, .int mo_toldLines, .int mo_highest, .ref mo_tape, .int mo_taped, .int mo_pos, .int mo_from, .int mo_sort, .int mo_value, .int mo_fault, .int mo_wrongAt, .ref mo_row, .int mo_orderMany, .int mo_firstOrder, .int mo_lightest, .int mo_heaviest, .ref mo_before, .long 0, .long 0, .long 1, .ref mo_lanes, .ref mo_sizes, .ref mo_cells, .int mo_torn, .ref mo_had])), (mo_st, .inl (k 0, 132, .inl (hst))), (mo_at, .inl (k 0, 44, .inl (hst)))] H := hP
  have hD : va_D A [(mo, .inr (7, [.ref mo_st, .ref mo_at, .ref mo_isKept, .int 0, .int mo_halfMany, .ref mo_draft, .int mo_dPeople, .int mo_dHalves, .int mo_toldLines, .int mo_highest, .ref mo_tape, .int mo_taped, .int mo_pos, .int mo_from, .int mo_sort, .int mo_value, .int mo_fault, .int mo_wrongAt, .ref mo_row, .int mo_orderMany, .int mo_firstOrder, .int mo_lightest, .int mo_heaviest, .ref mo_before, .long 0, .long 0, .long 1, .ref mo_lanes, .ref mo_sizes, .ref mo_cells, .int mo_torn, .ref mo_had])), (mo_st, .inl (k 0, 132, .inl (hst))), (mo_at, .inl (k 0, 44, .inl (hst)))] := hD
  refine lv_aload_n hx hb dX8_findCourt_130 rfl (lv_at hl 4 rfl) ?_
  refine lv_dup hx hb dX8_findCourt_131 rfl ?_
  refine va_get (D := D) (ci := 7) (v := .long 0) (C := RX8) (T := TX8) (N := 32) hx hb hts hiX8 hown hK hP 0 rfl rfl 25 (by decide) fl253 (fun _ h9 => h9) rfl dX8_findCourt_132 ?_
  refine lv_lload hx hb dX8_findCourt_135 (lv_at hl 1 rfl) ?_
  refine lv_iload hx hb dX8_findCourt_137 (lv_at hl 0 rfl) ?_
  refine lv_i2l (v := 0) hx hb dX8_findCourt_139 (by decide +kernel) ?_
  refine lv_lmul hx hb dX8_findCourt_140 ?_
  refine hs_topl 0 (by first | rfl | decide +kernel) ?_
  refine lv_ladd hx hb dX8_findCourt_141 ?_
  refine hs_topl 0 (by first | rfl | decide +kernel) ?_
  refine va_put (D := D) (ci := 7) (v := .long 0) (ty := .long) (C := RX8) (T := TX8) (N := 32) hx hb hts hiX8 tyX8 tyX8_ok nmX8 hown hK hP hD hS 0 rfl rfl 25 (by decide) fl253 (fun _ h9 => h9) rfl (by decide +kernel) rfl rfl (Nat.le_of_ble_eq_true rfl) dX8_findCourt_142 (fun H locs hP hD hS => ?_)
  have hP : va_P D vwCl [(mo, .inr (7, [.ref mo_st, .ref mo_at, .ref mo_isKept, .int 0, .int mo_halfMany, .ref mo_draft, .int mo_dPeople, .int mo_dHalves, .int mo_toldLines, .int mo_highest, .ref mo_tape, .int mo_taped, .int mo_pos, .int mo_from, .int mo_sort, .int mo_value, .int mo_fault, .int mo_wrongAt, .ref mo_row, .int mo_orderMany, .int mo_firstOrder, .int mo_lightest, .int mo_heaviest, .ref mo_before, .long 0, .long 0, .long 1, .ref mo_lanes, .ref mo_sizes, .ref mo_cells, .int mo_torn, .ref mo_had])), (mo_st, .inl (k 0, 132, .inl (hst))), (mo_at, .inl (k 0, 44, .inl (hst)))] H := hP
  have hD : va_D A [(mo, .inr (7, [.ref mo_st, .ref mo_at, .ref mo_isKept, .int 0, .int mo_halfMany, .ref mo_draft, .int mo_dPeople, .int mo_dHalves, .int mo_toldLines, .int mo_highest, .ref mo_tape, .int mo_taped, .int mo_pos, .int mo_from, .int mo_sort, .int mo_value, .int mo_fault, .int mo_wrongAt, .ref mo_row, .int mo_orderMany, .int mo_firstOrder, .int mo_lightest, .int mo_heaviest, .ref mo_before, .long 0, .long 0, .long 1, .ref mo_lanes, .ref mo_sizes, .ref mo_cells, .int mo_torn, .ref mo_had])), (mo_st, .inl (k 0, 132, .inl (hst))), (mo_at, .inl (k 0, 44, .inl (hst)))] := hD
  refine lv_iinc (v := 1) (lv' := [(4, .int 1), (7, .int 0), (5, .long 1), (3, .int 0), (0, .ref mo), (1, .int v), (2, .int kk)]) hx hb dX8_findCourt_145 hl (k := 2) rfl (by decide) (by decide) rfl (fun ls hl => ?_)
  refine lv_goto (tgt := 37) hx hb dX8_findCourt_148 (by decide) ?_
  refine lv_iload hx hb dX8_findCourt_37 (lv_at hl 0 rfl) ?_
  refine lv_iconst (v := 1) hx hb dX8_findCourt_39 (by decide) ?_
  refine lv_aload_n hx hb dX8_findCourt_40 rfl (lv_at hl 4 rfl) ?_
  refine va_get (D := D) (ci := 7) (v := .int 0) (C := RX8) (T := TX8) (N := 32) hx hb hts hiX8 hown hK hP 0 rfl rfl 3 (by decide) fl63 (fun _ h9 => h9) rfl dX8_findCourt_41 ?_
  refine lv_ishl hx hb dX8_findCourt_44 ?_
  refine hs_topi 1 (by first | rfl | decide +kernel) ?_
  refine lv_icmp_ge (tgt := 151) hx hb dX8_findCourt_45 (by decide) (fun c_16 => ?_) (fun c_16 => absurd c_16 (by decide))
  exact hs_vret hx hb hr hlocks hK hP hD hS () [0, 1, 2] rfl (by decide) dX8_findCourt_151 (trivial)

set_option maxHeartbeats 4000000 in
set_option maxRecDepth 100000 in
theorem m_copies_44 (l : Launch) (D : va_G) (k : Nat → ClassId) (sz : Nat) (mo : Nat) (mo_st : Nat) (mo_at : Nat) (mo_isKept : Nat) (mo_people : Int32) (mo_halfMany : Int32) (mo_draft : Nat) (mo_dPeople : Int32) (mo_dHalves : Int32) (mo_toldLines : Int32) (mo_highest : Int32) (mo_tape : Nat) (mo_taped : Int32) (mo_pos : Int32) (mo_from : Int32) (mo_sort : Int32) (mo_value : Int32) (mo_fault : Int32) (mo_wrongAt : Int32) (mo_row : Nat) (mo_orderMany : Int32) (mo_firstOrder : Int32) (mo_lightest : Int32) (mo_heaviest : Int32) (mo_before : Nat) (mo_justSum : Int64) (mo_toldSum : Int64) (mo_allWays : Int64) (mo_lanes : Nat) (mo_sizes : Nat) (mo_cells : Nat) (mo_torn : Int32) (mo_had : Nat) (sf : Nat → Int32)  : MV l yX8_copies wsX8_copies ({ frames := 0, cells := 0, slots := 0, locals := 0 }) D k [.ref mo, .int 44, .int 0] [(mo, .inr (7, [.ref mo_st, .ref mo_at, .ref mo_isKept, .int mo_people, .int mo_halfMany, .ref mo_draft, .int mo_dPeople, .int mo_dHalves, .int mo_toldLines, .int mo_highest, .ref mo_tape, .int mo_taped, .int mo_pos, .int mo_from, .int mo_sort, .int mo_value, .int mo_fault, .int mo_wrongAt, .ref mo_row, .int mo_orderMany, .int mo_firstOrder, .int mo_lightest, .int mo_heaviest, .ref mo_before, .long mo_justSum, .long mo_toldSum, .long mo_allWays, .ref mo_lanes, .ref mo_sizes, .ref mo_cells, .int mo_torn, .ref mo_had])), (mo_st, .inl (k 0, 132, .inl (sf)))] sz (fun (u : Unit) => True) (fun (u : Unit) => []) := by
  refine Met.ofW (cc := cX8_copies) (maxL := 4) (ret := none) (by decide) rfl ?_
  intro p e s m args below meth c s₁ B hml hv
  obtain ⟨rfl, hsz, hP, hK, hD0, hN⟩ := hv
  have hx := B.exec
  have hb := B.bytes
  have hr := B.returns
  have hlocks := B.notSynchronized
  have hts := atoms_spec (ws := wsX8_copies) B.pre
  have hown : s.vm.findClass RX8 = some m.cls := findClass_of_methodNamed B.named
  have hiX8 : ∀ w ∈ u_ws RX8 TX8 32, w ∈ wsX8_copies := by decide +kernel
  have fl7 := hts (.fieldLink RX8 7 "HalfScalesModel" "st" "[I") (by decide +kernel)
  subst hsz
  have hD := hD0.self (sz := s.heap.size)
  generalize hAe : va_A [(mo, .inr (7, [.ref mo_st, .ref mo_at, .ref mo_isKept, .int mo_people, .int mo_halfMany, .ref mo_draft, .int mo_dPeople, .int mo_dHalves, .int mo_toldLines, .int mo_highest, .ref mo_tape, .int mo_taped, .int mo_pos, .int mo_from, .int mo_sort, .int mo_value, .int mo_fault, .int mo_wrongAt, .ref mo_row, .int mo_orderMany, .int mo_firstOrder, .int mo_lightest, .int mo_heaviest, .ref mo_before, .long mo_justSum, .long mo_toldSum, .long mo_allWays, .ref mo_lanes, .ref mo_sizes, .ref mo_cells, .int mo_torn, .ref mo_had])), (mo_st, .inl (k 0, 132, .inl (sf)))] s.heap.size = A at hD ⊢
  have hA : ∀ q : Nat, s.heap.size ≤ q → A q := fun q h => by rw [← hAe]; exact Or.inr h
  have hS : va_S A s.heap s.heap [] := va_S.rf
  have hl := lv_entry ([.ref mo, .int 44, .int 0]) (n := 4) (Nat.le_of_ble_eq_true rfl)
  rw [lg_entry_eq]
  generalize (lg_sl ([.ref mo, .int 44, .int 0]) ++ List.replicate (4 - (lg_sl ([.ref mo, .int 44, .int 0])).length) Slot.unset).toArray = ls at hl ⊢
  have hl : lv_has ls 4 [(0, .ref mo), (1, .int 44), (2, .int 0)] := hl
  have hP : va_P D vwCl [(mo, .inr (7, [.ref mo_st, .ref mo_at, .ref mo_isKept, .int mo_people, .int mo_halfMany, .ref mo_draft, .int mo_dPeople, .int mo_dHalves, .int mo_toldLines, .int mo_highest, .ref mo_tape, .int mo_taped, .int mo_pos, .int mo_from, .int mo_sort, .int mo_value, .int mo_fault, .int mo_wrongAt, .ref mo_row, .int mo_orderMany, .int mo_firstOrder, .int mo_lightest, .int mo_heaviest, .ref mo_before, .long mo_justSum, .long mo_toldSum, .long mo_allWays, .ref mo_lanes, .ref mo_sizes, .ref mo_cells, .int mo_torn, .ref mo_had])), (mo_st, .inl (k 0, 132, .inl (sf)))] s.heap := hP
  refine lv_iconst (v := 0) hx hb dX8_copies_0 (by decide) ?_
  refine lv_istore_n (lv' := [(3, .int 0), (0, .ref mo), (1, .int 44), (2, .int 0)]) hx hb dX8_copies_1 rfl hl (by decide) rfl (fun ls hl => ?_)
  refine hs_for2 44 (fun i f => [(mo, .inr (7, [.ref mo_st, .ref mo_at, .ref mo_isKept, .int mo_people, .int mo_halfMany, .ref mo_draft, .int mo_dPeople, .int mo_dHalves, .int mo_toldLines, .int mo_highest, .ref mo_tape, .int mo_taped, .int mo_pos, .int mo_from, .int mo_sort, .int mo_value, .int mo_fault, .int mo_wrongAt, .ref mo_row, .int mo_orderMany, .int mo_firstOrder, .int mo_lightest, .int mo_heaviest, .ref mo_before, .long mo_justSum, .long mo_toldSum, .long mo_allWays, .ref mo_lanes, .ref mo_sizes, .ref mo_cells, .int mo_torn, .ref mo_had])), (mo_st, .inl (k 0, 132, .inl (f)))]) (fun i => [(3, .int (nI i)), (0, .ref mo), (1, .int 44), (2, .int 0)]) ?_ ?_ sf hP hD hS hl
  · intro i f hi ih H locs ls hP hD hS hl
    refine lv_iload_n hx hb dX8_copies_2 rfl (lv_at hl 0 rfl) ?_
    refine lv_bipush (v := 44) hx hb dX8_copies_3 (by decide) ?_
    refine lv_icmp_ge (tgt := 30) hx hb dX8_copies_5 (by decide) (fun c_1 => absurd c_1 (nI_ge (show i < 44 by omega) (by decide))) (fun c_1 => ?_)
    refine lv_aload_n hx hb dX8_copies_8 rfl (lv_at hl 1 rfl) ?_
    refine va_get (D := D) (ci := 7) (v := .ref mo_st) (C := RX8) (T := TX8) (N := 32) hx hb hts hiX8 hown hK hP 0 rfl rfl 0 (by decide) fl7 (fun _ h9 => h9) rfl dX8_copies_9 ?_
    refine lv_iload_n hx hb dX8_copies_12 rfl (lv_at hl 2 rfl) ?_
    refine lv_iload_n hx hb dX8_copies_13 rfl (lv_at hl 0 rfl) ?_
    refine lv_iadd hx hb dX8_copies_14 ?_
    refine hs_topi (nI (44 + i)) (show (44 : Int32) + nI i = nI (44 + i) from nI_add 44 i) ?_
    refine lv_aload_n hx hb dX8_copies_15 rfl (lv_at hl 1 rfl) ?_
    refine va_get (D := D) (ci := 7) (v := .ref mo_st) (C := RX8) (T := TX8) (N := 32) hx hb hts hiX8 hown hK hP 0 rfl rfl 0 (by decide) fl7 (fun _ h9 => h9) rfl dX8_copies_16 ?_
    refine lv_iload_n hx hb dX8_copies_19 rfl (lv_at hl 3 rfl) ?_
    refine lv_iload_n hx hb dX8_copies_20 rfl (lv_at hl 0 rfl) ?_
    refine lv_iadd hx hb dX8_copies_21 ?_
    refine hs_topi (nI (0 + i)) (show (0 : Int32) + nI i = nI (0 + i) from nI_add 0 i) ?_
    refine va_iald hx hb hK hP 1 0 rfl rfl (vp_in_nI (show 0 + i < 132 by omega) (by decide)) dX8_copies_22 ?_
    refine va_iast hx hb hK hP hD hS 1 0 rfl rfl (vp_in_nI (show 44 + i < 132 by omega) (by decide)) dX8_copies_23 (fun H locs hP hD hS => ?_)
    have hP : va_P D vwCl [(mo, .inr (7, [.ref mo_st, .ref mo_at, .ref mo_isKept, .int mo_people, .int mo_halfMany, .ref mo_draft, .int mo_dPeople, .int mo_dHalves, .int mo_toldLines, .int mo_highest, .ref mo_tape, .int mo_taped, .int mo_pos, .int mo_from, .int mo_sort, .int mo_value, .int mo_fault, .int mo_wrongAt, .ref mo_row, .int mo_orderMany, .int mo_firstOrder, .int mo_lightest, .int mo_heaviest, .ref mo_before, .long mo_justSum, .long mo_toldSum, .long mo_allWays, .ref mo_lanes, .ref mo_sizes, .ref mo_cells, .int mo_torn, .ref mo_had])), (mo_st, .inl (k 0, 132, .inl (upd f ((nI (44 + i)).toNatClampNeg) (f (nI (0 + i)).toNatClampNeg))))] H := hP
    have hD : va_D A [(mo, .inr (7, [.ref mo_st, .ref mo_at, .ref mo_isKept, .int mo_people, .int mo_halfMany, .ref mo_draft, .int mo_dPeople, .int mo_dHalves, .int mo_toldLines, .int mo_highest, .ref mo_tape, .int mo_taped, .int mo_pos, .int mo_from, .int mo_sort, .int mo_value, .int mo_fault, .int mo_wrongAt, .ref mo_row, .int mo_orderMany, .int mo_firstOrder, .int mo_lightest, .int mo_heaviest, .ref mo_before, .long mo_justSum, .long mo_toldSum, .long mo_allWays, .ref mo_lanes, .ref mo_sizes, .ref mo_cells, .int mo_torn, .ref mo_had])), (mo_st, .inl (k 0, 132, .inl (upd f ((nI (44 + i)).toNatClampNeg) (f (nI (0 + i)).toNatClampNeg))))] := hD
    refine lv_iinc (v := nI (i + 1)) (lv' := [(3, .int (nI (i + 1))), (0, .ref mo), (1, .int 44), (2, .int 0)]) hx hb dX8_copies_24 hl (k := 0) rfl (by rw [nI_succ]; rfl) (by decide) rfl (fun ls hl => ?_)
    refine lv_goto (tgt := 2) hx hb dX8_copies_27 (by decide) ?_
    exact ih _ _ _ _ hP hD hS (lv_sub hl [0, 1, 2, 3] rfl)
  · intro f H locs ls hP hD hS hl
    refine lv_iload_n hx hb dX8_copies_2 rfl (lv_at hl 0 rfl) ?_
    refine lv_bipush (v := 44) hx hb dX8_copies_3 (by decide) ?_
    refine lv_icmp_ge (tgt := 30) hx hb dX8_copies_5 (by decide) (fun c_2 => ?_) (fun c_2 => absurd (show (44 : Int32) ≤ nI 44 by decide) c_2)
    exact hs_vret hx hb hr hlocks hK hP hD hS () [] rfl (by decide) dX8_copies_30 (trivial)

set_option maxHeartbeats 4000000 in
set_option maxRecDepth 100000 in
theorem m_copies_88 (l : Launch) (D : va_G) (k : Nat → ClassId) (sz : Nat) (mo : Nat) (mo_st : Nat) (mo_at : Nat) (mo_isKept : Nat) (mo_people : Int32) (mo_halfMany : Int32) (mo_draft : Nat) (mo_dPeople : Int32) (mo_dHalves : Int32) (mo_toldLines : Int32) (mo_highest : Int32) (mo_tape : Nat) (mo_taped : Int32) (mo_pos : Int32) (mo_from : Int32) (mo_sort : Int32) (mo_value : Int32) (mo_fault : Int32) (mo_wrongAt : Int32) (mo_row : Nat) (mo_orderMany : Int32) (mo_firstOrder : Int32) (mo_lightest : Int32) (mo_heaviest : Int32) (mo_before : Nat) (mo_justSum : Int64) (mo_toldSum : Int64) (mo_allWays : Int64) (mo_lanes : Nat) (mo_sizes : Nat) (mo_cells : Nat) (mo_torn : Int32) (mo_had : Nat) (sf : Nat → Int32)  : MV l yX8_copies wsX8_copies ({ frames := 0, cells := 0, slots := 0, locals := 0 }) D k [.ref mo, .int 88, .int 0] [(mo, .inr (7, [.ref mo_st, .ref mo_at, .ref mo_isKept, .int mo_people, .int mo_halfMany, .ref mo_draft, .int mo_dPeople, .int mo_dHalves, .int mo_toldLines, .int mo_highest, .ref mo_tape, .int mo_taped, .int mo_pos, .int mo_from, .int mo_sort, .int mo_value, .int mo_fault, .int mo_wrongAt, .ref mo_row, .int mo_orderMany, .int mo_firstOrder, .int mo_lightest, .int mo_heaviest, .ref mo_before, .long mo_justSum, .long mo_toldSum, .long mo_allWays, .ref mo_lanes, .ref mo_sizes, .ref mo_cells, .int mo_torn, .ref mo_had])), (mo_st, .inl (k 0, 132, .inl (sf)))] sz (fun (u : Unit) => True) (fun (u : Unit) => []) := by
  refine Met.ofW (cc := cX8_copies) (maxL := 4) (ret := none) (by decide) rfl ?_
  intro p e s m args below meth c s₁ B hml hv
  obtain ⟨rfl, hsz, hP, hK, hD0, hN⟩ := hv
  have hx := B.exec
  have hb := B.bytes
  have hr := B.returns
  have hlocks := B.notSynchronized
  have hts := atoms_spec (ws := wsX8_copies) B.pre
  have hown : s.vm.findClass RX8 = some m.cls := findClass_of_methodNamed B.named
  have hiX8 : ∀ w ∈ u_ws RX8 TX8 32, w ∈ wsX8_copies := by decide +kernel
  have fl7 := hts (.fieldLink RX8 7 "HalfScalesModel" "st" "[I") (by decide +kernel)
  subst hsz
  have hD := hD0.self (sz := s.heap.size)
  generalize hAe : va_A [(mo, .inr (7, [.ref mo_st, .ref mo_at, .ref mo_isKept, .int mo_people, .int mo_halfMany, .ref mo_draft, .int mo_dPeople, .int mo_dHalves, .int mo_toldLines, .int mo_highest, .ref mo_tape, .int mo_taped, .int mo_pos, .int mo_from, .int mo_sort, .int mo_value, .int mo_fault, .int mo_wrongAt, .ref mo_row, .int mo_orderMany, .int mo_firstOrder, .int mo_lightest, .int mo_heaviest, .ref mo_before, .long mo_justSum, .long mo_toldSum, .long mo_allWays, .ref mo_lanes, .ref mo_sizes, .ref mo_cells, .int mo_torn, .ref mo_had])), (mo_st, .inl (k 0, 132, .inl (sf)))] s.heap.size = A at hD ⊢
  have hA : ∀ q : Nat, s.heap.size ≤ q → A q := fun q h => by rw [← hAe]; exact Or.inr h
  have hS : va_S A s.heap s.heap [] := va_S.rf
  have hl := lv_entry ([.ref mo, .int 88, .int 0]) (n := 4) (Nat.le_of_ble_eq_true rfl)
  rw [lg_entry_eq]
  generalize (lg_sl ([.ref mo, .int 88, .int 0]) ++ List.replicate (4 - (lg_sl ([.ref mo, .int 88, .int 0])).length) Slot.unset).toArray = ls at hl ⊢
  have hl : lv_has ls 4 [(0, .ref mo), (1, .int 88), (2, .int 0)] := hl
  have hP : va_P D vwCl [(mo, .inr (7, [.ref mo_st, .ref mo_at, .ref mo_isKept, .int mo_people, .int mo_halfMany, .ref mo_draft, .int mo_dPeople, .int mo_dHalves, .int mo_toldLines, .int mo_highest, .ref mo_tape, .int mo_taped, .int mo_pos, .int mo_from, .int mo_sort, .int mo_value, .int mo_fault, .int mo_wrongAt, .ref mo_row, .int mo_orderMany, .int mo_firstOrder, .int mo_lightest, .int mo_heaviest, .ref mo_before, .long mo_justSum, .long mo_toldSum, .long mo_allWays, .ref mo_lanes, .ref mo_sizes, .ref mo_cells, .int mo_torn, .ref mo_had])), (mo_st, .inl (k 0, 132, .inl (sf)))] s.heap := hP
  refine lv_iconst (v := 0) hx hb dX8_copies_0 (by decide) ?_
  refine lv_istore_n (lv' := [(3, .int 0), (0, .ref mo), (1, .int 88), (2, .int 0)]) hx hb dX8_copies_1 rfl hl (by decide) rfl (fun ls hl => ?_)
  refine hs_for2 44 (fun i f => [(mo, .inr (7, [.ref mo_st, .ref mo_at, .ref mo_isKept, .int mo_people, .int mo_halfMany, .ref mo_draft, .int mo_dPeople, .int mo_dHalves, .int mo_toldLines, .int mo_highest, .ref mo_tape, .int mo_taped, .int mo_pos, .int mo_from, .int mo_sort, .int mo_value, .int mo_fault, .int mo_wrongAt, .ref mo_row, .int mo_orderMany, .int mo_firstOrder, .int mo_lightest, .int mo_heaviest, .ref mo_before, .long mo_justSum, .long mo_toldSum, .long mo_allWays, .ref mo_lanes, .ref mo_sizes, .ref mo_cells, .int mo_torn, .ref mo_had])), (mo_st, .inl (k 0, 132, .inl (f)))]) (fun i => [(3, .int (nI i)), (0, .ref mo), (1, .int 88), (2, .int 0)]) ?_ ?_ sf hP hD hS hl
  · intro i f hi ih H locs ls hP hD hS hl
    refine lv_iload_n hx hb dX8_copies_2 rfl (lv_at hl 0 rfl) ?_
    refine lv_bipush (v := 44) hx hb dX8_copies_3 (by decide) ?_
    refine lv_icmp_ge (tgt := 30) hx hb dX8_copies_5 (by decide) (fun c_1 => absurd c_1 (nI_ge (show i < 44 by omega) (by decide))) (fun c_1 => ?_)
    refine lv_aload_n hx hb dX8_copies_8 rfl (lv_at hl 1 rfl) ?_
    refine va_get (D := D) (ci := 7) (v := .ref mo_st) (C := RX8) (T := TX8) (N := 32) hx hb hts hiX8 hown hK hP 0 rfl rfl 0 (by decide) fl7 (fun _ h9 => h9) rfl dX8_copies_9 ?_
    refine lv_iload_n hx hb dX8_copies_12 rfl (lv_at hl 2 rfl) ?_
    refine lv_iload_n hx hb dX8_copies_13 rfl (lv_at hl 0 rfl) ?_
    refine lv_iadd hx hb dX8_copies_14 ?_
    refine hs_topi (nI (88 + i)) (show (88 : Int32) + nI i = nI (88 + i) from nI_add 88 i) ?_
    refine lv_aload_n hx hb dX8_copies_15 rfl (lv_at hl 1 rfl) ?_
    refine va_get (D := D) (ci := 7) (v := .ref mo_st) (C := RX8) (T := TX8) (N := 32) hx hb hts hiX8 hown hK hP 0 rfl rfl 0 (by decide) fl7 (fun _ h9 => h9) rfl dX8_copies_16 ?_
    refine lv_iload_n hx hb dX8_copies_19 rfl (lv_at hl 3 rfl) ?_
    refine lv_iload_n hx hb dX8_copies_20 rfl (lv_at hl 0 rfl) ?_
    refine lv_iadd hx hb dX8_copies_21 ?_
    refine hs_topi (nI (0 + i)) (show (0 : Int32) + nI i = nI (0 + i) from nI_add 0 i) ?_
    refine va_iald hx hb hK hP 1 0 rfl rfl (vp_in_nI (show 0 + i < 132 by omega) (by decide)) dX8_copies_22 ?_
    refine va_iast hx hb hK hP hD hS 1 0 rfl rfl (vp_in_nI (show 88 + i < 132 by omega) (by decide)) dX8_copies_23 (fun H locs hP hD hS => ?_)
    have hP : va_P D vwCl [(mo, .inr (7, [.ref mo_st, .ref mo_at, .ref mo_isKept, .int mo_people, .int mo_halfMany, .ref mo_draft, .int mo_dPeople, .int mo_dHalves, .int mo_toldLines, .int mo_highest, .ref mo_tape, .int mo_taped, .int mo_pos, .int mo_from, .int mo_sort, .int mo_value, .int mo_fault, .int mo_wrongAt, .ref mo_row, .int mo_orderMany, .int mo_firstOrder, .int mo_lightest, .int mo_heaviest, .ref mo_before, .long mo_justSum, .long mo_toldSum, .long mo_allWays, .ref mo_lanes, .ref mo_sizes, .ref mo_cells, .int mo_torn, .ref mo_had])), (mo_st, .inl (k 0, 132, .inl (upd f ((nI (88 + i)).toNatClampNeg) (f (nI (0 + i)).toNatClampNeg))))] H := hP
    have hD : va_D A [(mo, .inr (7, [.ref mo_st, .ref mo_at, .ref mo_isKept, .int mo_people, .int mo_halfMany, .ref mo_draft, .int mo_dPeople, .int mo_dHalves, .int mo_toldLines, .int mo_highest, .ref mo_tape, .int mo_taped, .int mo_pos, .int mo_from, .int mo_sort, .int mo_value, .int mo_fault, .int mo_wrongAt, .ref mo_row, .int mo_orderMany, .int mo_firstOrder, .int mo_lightest, .int mo_heaviest, .ref mo_before, .long mo_justSum, .long mo_toldSum, .long mo_allWays, .ref mo_lanes, .ref mo_sizes, .ref mo_cells, .int mo_torn, .ref mo_had])), (mo_st, .inl (k 0, 132, .inl (upd f ((nI (88 + i)).toNatClampNeg) (f (nI (0 + i)).toNatClampNeg))))] := hD
    refine lv_iinc (v := nI (i + 1)) (lv' := [(3, .int (nI (i + 1))), (0, .ref mo), (1, .int 88), (2, .int 0)]) hx hb dX8_copies_24 hl (k := 0) rfl (by rw [nI_succ]; rfl) (by decide) rfl (fun ls hl => ?_)
    refine lv_goto (tgt := 2) hx hb dX8_copies_27 (by decide) ?_
    exact ih _ _ _ _ hP hD hS (lv_sub hl [0, 1, 2, 3] rfl)
  · intro f H locs ls hP hD hS hl
    refine lv_iload_n hx hb dX8_copies_2 rfl (lv_at hl 0 rfl) ?_
    refine lv_bipush (v := 44) hx hb dX8_copies_3 (by decide) ?_
    refine lv_icmp_ge (tgt := 30) hx hb dX8_copies_5 (by decide) (fun c_2 => ?_) (fun c_2 => absurd (show (44 : Int32) ≤ nI 44 by decide) c_2)
    exact hs_vret hx hb hr hlocks hK hP hD hS () [] rfl (by decide) dX8_copies_30 (trivial)
