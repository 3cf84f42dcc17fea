set_option maxHeartbeats 4000000 in
set_option maxRecDepth 100000 in
theorem gm_copies (l : Launch) (D : va_G) (k : Nat → ClassId) (sz : Nat) (mo : Nat) (mo_st : Nat) (mo_at : Nat) (mo_isKept : Nat) (mo_pe : Nat) (mo_hm : Nat) (mo_draft : Nat) (mo_dp : Nat) (mo_dh : Nat) (mo_toldLines : Int32) (mo_highest : Int32) (mo_tape : Nat) (mo_tl : Nat) (mo_ps : Nat) (mo_fr : Nat) (mo_sort : Int32) (mo_value : Int32) (mo_ft : Nat) (mo_wrongAt : Int32) (mo_row : Nat) (mo_orderMany : Int32) (mo_fo : Nat) (mo_lightest : Int32) (mo_heaviest : Int32) (mo_before : Nat) (mo_justSum : Int64) (mo_toldSum : Int64) (mo_allWays : Int64) (mo_lanes : Nat) (mo_sizes : Nat) (mo_cells : Nat) (mo_torn : Int32) (mo_had : Nat) (sf : Nat → Int32) (to : Nat) (so : Nat) (hto : to + 44 ≤ 132) (hso : so + 44 ≤ 132) (hdj : to + 44 ≤ so ∨ so + 44 ≤ to) : MV l yX8_copies wsX8_copies ({ frames := 0, cells := 0, slots := 0, locals := 0 }) D k [.ref mo, .int (nI to), .int (nI so)] [oq7 mo mo_st mo_at mo_isKept (nI mo_pe) (nI mo_hm) mo_draft (nI mo_dp) (nI mo_dh) mo_toldLines mo_highest mo_tape (nI mo_tl) (nI mo_ps) (nI mo_fr) mo_sort mo_value (nI mo_ft) mo_wrongAt mo_row mo_orderMany (nI mo_fo) mo_lightest mo_heaviest mo_before mo_justSum mo_toldSum mo_allWays mo_lanes mo_sizes mo_cells mo_torn mo_had, oqI k mo_st 132 (sf)] sz (fun (u : Nat → Int32) => (∀ q, q < 44 → u (to + q) = sf (so + q)) ∧ ∀ q, ¬ (to ≤ q ∧ q < to + 44) → u q = sf q) (fun (u : Nat → Int32) => [oq7 mo mo_st mo_at mo_isKept (nI mo_pe) (nI mo_hm) mo_draft (nI mo_dp) (nI mo_dh) mo_toldLines mo_highest mo_tape (nI mo_tl) (nI mo_ps) (nI mo_fr) mo_sort mo_value (nI mo_ft) mo_wrongAt mo_row mo_orderMany (nI mo_fo) mo_lightest mo_heaviest mo_before mo_justSum mo_toldSum mo_allWays mo_lanes mo_sizes mo_cells mo_torn mo_had, oqI k mo_st 132 (u)]) := by
  refine Met.ofW (cc := cX8_copies) (maxL := 4) (ret := none) hpn_X8 rfl ?_
  intro p e s m args below meth c s₁ B hml hv
  obtain ⟨rfl, hsz, hP, hK, hD0, hN⟩ := hv
  have hx := B.exec
  have hb := B.bytes
  have hr := B.returns
  have hlocks := B.notSynchronized
  have hts := atoms_spec (ws := wsX8_copies) B.pre
  have hown := findClass_of_methodNamed B.named
  have hown : s.vm.findClass RX8 = some m.cls := hown
  have hiX8 : ∀ w ∈ u_ws RX8 TX8 32, w ∈ wsX8_copies := fun w9 hw9 => List.mem_cons_of_mem _ (igX8 w9 hw9)
  have fl7 := hts (.fieldLink RX8 7 "HalfScalesModel" "st" "[I") (List.mem_cons_of_mem _ (hs_inG 4 80 rfl rfl))
  subst hsz
  have hD := hD0.self (sz := s.heap.size)
  generalize hAe : va_A [oq7 mo mo_st mo_at mo_isKept (nI mo_pe) (nI mo_hm) mo_draft (nI mo_dp) (nI mo_dh) mo_toldLines mo_highest mo_tape (nI mo_tl) (nI mo_ps) (nI mo_fr) mo_sort mo_value (nI mo_ft) mo_wrongAt mo_row mo_orderMany (nI mo_fo) mo_lightest mo_heaviest mo_before mo_justSum mo_toldSum mo_allWays mo_lanes mo_sizes mo_cells mo_torn mo_had, oqI k mo_st 132 (sf)] s.heap.size = A at hD ⊢
  have hA : ∀ q : Nat, s.heap.size ≤ q → A q := fun q h => by rw [← hAe]; exact Or.inr h
  have hS : va_S A s.heap s.heap [] := va_S.rf
  have hl := lv_entry ([.ref mo, .int (nI to), .int (nI so)]) (n := 4) (Nat.le_of_ble_eq_true rfl)
  rw [lg_entry_eq]
  generalize (lg_sl ([.ref mo, .int (nI to), .int (nI so)]) ++ List.replicate (4 - (lg_sl ([.ref mo, .int (nI to), .int (nI so)])).length) Slot.unset).toArray = ls at hl ⊢
  have hl : lv_has ls 4 [(0, .ref mo), (1, .int (nI to)), (2, .int (nI so))] := hl
  have hP : va_P D vwCl [oq7 mo mo_st mo_at mo_isKept (nI mo_pe) (nI mo_hm) mo_draft (nI mo_dp) (nI mo_dh) mo_toldLines mo_highest mo_tape (nI mo_tl) (nI mo_ps) (nI mo_fr) mo_sort mo_value (nI mo_ft) mo_wrongAt mo_row mo_orderMany (nI mo_fo) mo_lightest mo_heaviest mo_before mo_justSum mo_toldSum mo_allWays mo_lanes mo_sizes mo_cells mo_torn mo_had, oqI k mo_st 132 (sf)] s.heap := hP
  refine lv_iconst (v := 0) hx hb dX8_copies_0 hki_0 ?_
  refine lv_istore_n (lv' := [(3, .int 0), (0, .ref mo), (1, .int (nI to)), (2, .int (nI so))]) hx hb dX8_copies_1 rfl hl (Nat.le_of_ble_eq_true rfl) rfl (fun ls hl => ?_)
  refine hs_while (σ := Nat × (Nat → Int32)) (fun x => x.1 ≤ 44 ∧ (∀ q, q < x.1 → x.2 (to + q) = sf (so + q)) ∧ ∀ q, ¬ (to ≤ q ∧ q < to + 44) → x.2 q = sf q) (fun x => 44 - x.1) (fun x => [oq7 mo mo_st mo_at mo_isKept (nI mo_pe) (nI mo_hm) mo_draft (nI mo_dp) (nI mo_dh) mo_toldLines mo_highest mo_tape (nI mo_tl) (nI mo_ps) (nI mo_fr) mo_sort mo_value (nI mo_ft) mo_wrongAt mo_row mo_orderMany (nI mo_fo) mo_lightest mo_heaviest mo_before mo_justSum mo_toldSum mo_allWays mo_lanes mo_sizes mo_cells mo_torn mo_had, oqI k mo_st 132 ((x.2))]) (fun x => [(3, .int (nI (x.1))), (0, .ref mo), (1, .int (nI to)), (2, .int (nI so))]) ?_ (0, sf) ?_ hP hD hS hl
  · intro x hI ih2 H locs ls hP hD hS hl
    obtain ⟨i, g⟩ := x
    try dsimp only at hI
    have hP : va_P D vwCl [oq7 mo mo_st mo_at mo_isKept (nI mo_pe) (nI mo_hm) mo_draft (nI mo_dp) (nI mo_dh) mo_toldLines mo_highest mo_tape (nI mo_tl) (nI mo_ps) (nI mo_fr) mo_sort mo_value (nI mo_ft) mo_wrongAt mo_row mo_orderMany (nI mo_fo) mo_lightest mo_heaviest mo_before mo_justSum mo_toldSum mo_allWays mo_lanes mo_sizes mo_cells mo_torn mo_had, oqI k mo_st 132 (g)] H := hP
    have hD : va_D A [oq7 mo mo_st mo_at mo_isKept (nI mo_pe) (nI mo_hm) mo_draft (nI mo_dp) (nI mo_dh) mo_toldLines mo_highest mo_tape (nI mo_tl) (nI mo_ps) (nI mo_fr) mo_sort mo_value (nI mo_ft) mo_wrongAt mo_row mo_orderMany (nI mo_fo) mo_lightest mo_heaviest mo_before mo_justSum mo_toldSum mo_allWays mo_lanes mo_sizes mo_cells mo_torn mo_had, oqI k mo_st 132 (g)] := hD
    have hl : lv_has ls 4 [(3, .int (nI i)), (0, .ref mo), (1, .int (nI to)), (2, .int (nI so))] := hl
    refine lv_iload_n hx hb dX8_copies_2 rfl (lv_at hl 0 rfl) ?_
    refine lv_bipush (v := 44) hx hb dX8_copies_3 hkb_44 ?_
    refine lv_icmp_ge (tgt := 30) hx hb dX8_copies_5 rfl (fun c_1 => ?_) (fun c_1 => ?_)
    · have nc_1 : 44 ≤ i := (nI_leI (a := 44) (b := i) (by omega) (by omega)).mp c_1
      exact hs_vret hx hb hr hlocks hK hP hD hS g [0, 1] rfl (hs_upnd rfl) dX8_copies_30 (⟨fun q hq => hI.2.1 q (by omega), hI.2.2⟩)
    · have nc_1 : ¬ 44 ≤ i := fun hq9 => c_1 ((nI_leI (a := 44) (b := i) (by omega) (by omega)).mpr hq9)
      refine lv_aload_n hx hb dX8_copies_8 rfl (lv_at hl 1 rfl) ?_
      refine va_get (D := D) (ci := 7) (v := .ref mo_st) (C := RX8) (T := TX8) (N := 32) hx hb hts hiX8 hown hK hP 0 rfl rfl 0 (Nat.le_of_ble_eq_true rfl) fl7 (fun _ h9 => h9) rfl dX8_copies_9 ?_
      refine lv_iload_n hx hb dX8_copies_12 rfl (lv_at hl 2 rfl) ?_
      refine lv_iload_n hx hb dX8_copies_13 rfl (lv_at hl 0 rfl) ?_
      refine lv_iadd hx hb dX8_copies_14 ?_
      refine hs_topi (nI (to + i)) (nI_add (to) (i)) ?_
      refine lv_aload_n hx hb dX8_copies_15 rfl (lv_at hl 1 rfl) ?_
      refine va_get (D := D) (ci := 7) (v := .ref mo_st) (C := RX8) (T := TX8) (N := 32) hx hb hts hiX8 hown hK hP 0 rfl rfl 0 (Nat.le_of_ble_eq_true rfl) fl7 (fun _ h9 => h9) rfl dX8_copies_16 ?_
      refine lv_iload_n hx hb dX8_copies_19 rfl (lv_at hl 3 rfl) ?_
      refine lv_iload_n hx hb dX8_copies_20 rfl (lv_at hl 0 rfl) ?_
      refine lv_iadd hx hb dX8_copies_21 ?_
      refine hs_topi (nI (so + i)) (nI_add (so) (i)) ?_
      refine va_iald hx hb hK hP 1 0 rfl rfl (vp_in_nI (show (so + i) < 132 by omega) (by decide)) dX8_copies_22 ?_
      refine hs_topi (sf (so + i)) (by rw [nI_clamp (by omega)]; exact hI.2.2 (so + i) (by omega)) ?_
      refine va_iast hx hb hK hP hD hS 1 0 rfl rfl (vp_in_nI (show (to + i) < 132 by omega) (by decide)) dX8_copies_23 (fun H locs hP hD hS => ?_)
      have hP : va_P D vwCl [_, oqI k mo_st 132 (upd g ((nI (to + i)).toNatClampNeg) (sf (so + i)))] H := hP
      have hD : va_D A [_, oqI k mo_st 132 (upd g ((nI (to + i)).toNatClampNeg) (sf (so + i)))] := hD
      refine lv_iinc (v := nI (i + 1)) (lv' := [(3, .int (nI (i + 1))), (0, .ref mo), (1, .int (nI to)), (2, .int (nI so))]) hx hb dX8_copies_24 hl (k := 0) rfl (nI_add (i) 1) (Nat.le_of_ble_eq_true rfl) rfl (fun ls hl => ?_)
      refine lv_goto (tgt := 2) hx hb dX8_copies_27 rfl ?_
      exact ih2 (i + 1, upd g ((nI (to + i)).toNatClampNeg) (sf (so + i))) (by (try dsimp only); exact ⟨by omega, fun q hq => if e9 : q = i then (by subst e9; exact (by (try dsimp only); exact hs_ue (by omega) rfl)) else (hs_uc (by omega) (by omega)).trans (hI.2.1 q (by omega)), fun q hq => by rw [hs_uc (by omega) (by omega)]; exact hI.2.2 q hq⟩) (by (try dsimp only); omega) _ _ _ hP hD hS (lv_sub hl [0, 1, 2, 3] rfl)
  · (try dsimp only); exact ⟨by omega, fun q hq => absurd hq (by omega), fun _ _ => rfl⟩
