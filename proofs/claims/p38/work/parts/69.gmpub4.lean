set_option maxHeartbeats 4000000 in
set_option maxRecDepth 100000 in
theorem gq_split (l : Launch) (D : va_G) (k : Nat → ClassId) (sz : Nat) (mo : Nat) (mo_st : Nat) (mo_at : Nat) (mo_isKept : Nat) (mo_pe : Nat) (mo_hm : Nat) (mo_draft : Nat) (mo_dp : Nat) (mo_dh : Nat) (mo_toldLines : Int32) (mo_highest : Int32) (mo_tape : Nat) (mo_tl : Nat) (mo_ps : Nat) (mo_fr : Nat) (mo_sort : Int32) (mo_value : Int32) (mo_ft : Nat) (mo_wrongAt : Int32) (mo_row : Nat) (mo_orderMany : Int32) (mo_fo : Nat) (mo_lightest : Int32) (mo_heaviest : Int32) (mo_before : Nat) (mo_justSum : Int64) (mo_toldSum : Int64) (mo_allWays : Int64) (mo_lanes : Nat) (mo_sizes : Nat) (mo_cells : Nat) (mo_torn : Int32) (mo_had : Nat) (sf : Nat → Int32) (c0 : Nat) (c3 : Nat) (c4 : Nat) (fi : Nat) (i : Int32) (e0 : sf 0 = nI c0) (h0 : c0 ≤ 8) (h02 : 2 ≤ c0) (e3 : sf 16 = nI c3) (h3 : c3 ≤ 8) (e4 : sf 25 = nI c4) (h4 : c4 ≤ 6) (hpe : mo_pe ≤ 4) (hm2 : 2 ≤ mo_hm) (hm5 : mo_hm ≤ 5) (ef : sf 14 = nI fi) (hfi : fi ≤ 99) (hsaw : ∀ i, i < c4 → vp_in (sf (26 + 3 * i)) 4) : MI l yX8_split wsX8_split ({ frames := 2, cells := 0, slots := 0, locals := 46 }) D k [.ref mo, .int i] [(mo, .inr (7, [.ref mo_st, .ref mo_at, .ref mo_isKept, .int (nI mo_pe), .int (nI mo_hm), .ref mo_draft, .int (nI mo_dp), .int (nI mo_dh), .int mo_toldLines, .int mo_highest, .ref mo_tape, .int (nI mo_tl), .int (nI mo_ps), .int (nI mo_fr), .int mo_sort, .int mo_value, .int (nI mo_ft), .int mo_wrongAt, .ref mo_row, .int mo_orderMany, .int (nI mo_fo), .int mo_lightest, .int mo_heaviest, .ref mo_before, .long mo_justSum, .long mo_toldSum, .long mo_allWays, .ref mo_lanes, .ref mo_sizes, .ref mo_cells, .int mo_torn, .ref mo_had])), (mo_st, .inl (k 0, 132, .inl (sf)))] sz (fun (r : Int32) (u : Nat → Int32) => (∀ q, ¬ q ≤ 9 → u q = sf q) ∧ ∃ c : Nat, u 0 = nI c ∧ 2 ≤ c ∧ c ≤ 8) (fun (u : Nat → Int32) => [(mo, .inr (7, [.ref mo_st, .ref mo_at, .ref mo_isKept, .int (nI mo_pe), .int (nI mo_hm), .ref mo_draft, .int (nI mo_dp), .int (nI mo_dh), .int mo_toldLines, .int mo_highest, .ref mo_tape, .int (nI mo_tl), .int (nI mo_ps), .int (nI mo_fr), .int mo_sort, .int mo_value, .int (nI mo_ft), .int mo_wrongAt, .ref mo_row, .int mo_orderMany, .int (nI mo_fo), .int mo_lightest, .int mo_heaviest, .ref mo_before, .long mo_justSum, .long mo_toldSum, .long mo_allWays, .ref mo_lanes, .ref mo_sizes, .ref mo_cells, .int mo_torn, .ref mo_had])), (mo_st, .inl (k 0, 132, .inl (u)))]) := by
  refine Met.ofW (cc := cX8_split) (maxL := 3) (ret := (some .int)) (by decide) rfl ?_
  intro p e s m args below meth c s₁ B hml hv
  obtain ⟨rfl, hsz, hP, hK, hD0, hN⟩ := hv
  have hx := B.exec
  have hb := B.bytes
  have hr := B.returns
  have hlocks := B.notSynchronized
  have hts := atoms_spec (ws := wsX8_split) B.pre
  have hown : s.vm.findClass RX8 = some m.cls := findClass_of_methodNamed B.named
  have hiX8 : ∀ w ∈ u_ws RX8 TX8 32, w ∈ wsX8_split := by decide +kernel
  have fl7 := hts (.fieldLink RX8 7 "HalfScalesModel" "st" "[I") (by decide +kernel)
  subst hsz
  have hD := hD0.self (sz := s.heap.size)
  generalize hAe : va_A [(mo, .inr (7, [.ref mo_st, .ref mo_at, .ref mo_isKept, .int (nI mo_pe), .int (nI mo_hm), .ref mo_draft, .int (nI mo_dp), .int (nI mo_dh), .int mo_toldLines, .int mo_highest, .ref mo_tape, .int (nI mo_tl), .int (nI mo_ps), .int (nI mo_fr), .int mo_sort, .int mo_value, .int (nI mo_ft), .int mo_wrongAt, .ref mo_row, .int mo_orderMany, .int (nI mo_fo), .int mo_lightest, .int mo_heaviest, .ref mo_before, .long mo_justSum, .long mo_toldSum, .long mo_allWays, .ref mo_lanes, .ref mo_sizes, .ref mo_cells, .int mo_torn, .ref mo_had])), (mo_st, .inl (k 0, 132, .inl (sf)))] s.heap.size = A at hD ⊢
  have hA : ∀ q : Nat, s.heap.size ≤ q → A q := fun q h => by rw [← hAe]; exact Or.inr h
  have hS : va_S A s.heap s.heap [] := va_S.rf
  have hl := lv_entry ([.ref mo, .int i]) (n := 3) (Nat.le_of_ble_eq_true rfl)
  rw [lg_entry_eq]
  generalize (lg_sl ([.ref mo, .int i]) ++ List.replicate (3 - (lg_sl ([.ref mo, .int i])).length) Slot.unset).toArray = ls at hl ⊢
  have hl : lv_has ls 3 [(0, .ref mo), (1, .int i)] := hl
  have hP : va_P D vwCl [(mo, .inr (7, [.ref mo_st, .ref mo_at, .ref mo_isKept, .int (nI mo_pe), .int (nI mo_hm), .ref mo_draft, .int (nI mo_dp), .int (nI mo_dh), .int mo_toldLines, .int mo_highest, .ref mo_tape, .int (nI mo_tl), .int (nI mo_ps), .int (nI mo_fr), .int mo_sort, .int mo_value, .int (nI mo_ft), .int mo_wrongAt, .ref mo_row, .int mo_orderMany, .int (nI mo_fo), .int mo_lightest, .int mo_heaviest, .ref mo_before, .long mo_justSum, .long mo_toldSum, .long mo_allWays, .ref mo_lanes, .ref mo_sizes, .ref mo_cells, .int mo_torn, .ref mo_had])), (mo_st, .inl (k 0, 132, .inl (sf)))] s.heap := hP
  refine lv_aload_n hx hb dX8_split_0 rfl (lv_at hl 0 rfl) ?_
  refine lv_iload_n hx hb dX8_split_1 rfl (lv_at hl 1 rfl) ?_
  refine hs_ci (va_runV (As := [.int i]) (rest := []) ⟨hx, hb, hml, hown, hts⟩ (gm_isCell l D k _ mo mo_st mo_at mo_isKept mo_pe mo_hm mo_draft mo_dp mo_dh mo_toldLines mo_highest mo_tape mo_tl mo_ps mo_fr mo_sort mo_value mo_ft mo_wrongAt mo_row mo_orderMany mo_fo mo_lightest mo_heaviest mo_before mo_justSum mo_toldSum mo_allWays mo_lanes mo_sizes mo_cells mo_torn mo_had sf c0 i e0 (by omega)) (cwV 1 hts gX8_split_X8_isCell rfl rfl rfl (by decide +kernel) ⟨Nat.le_of_ble_eq_true rfl, Nat.le_of_ble_eq_true rfl⟩) (hs_preV hK hN (hs_subP (w := [(mo, .inr (7, [.ref mo_st, .ref mo_at, .ref mo_isKept, .int (nI mo_pe), .int (nI mo_hm), .ref mo_draft, .int (nI mo_dp), .int (nI mo_dh), .int mo_toldLines, .int mo_highest, .ref mo_tape, .int (nI mo_tl), .int (nI mo_ps), .int (nI mo_fr), .int mo_sort, .int mo_value, .int (nI mo_ft), .int mo_wrongAt, .ref mo_row, .int mo_orderMany, .int (nI mo_fo), .int mo_lightest, .int mo_heaviest, .ref mo_before, .long mo_justSum, .long mo_toldSum, .long mo_allWays, .ref mo_lanes, .ref mo_sizes, .ref mo_cells, .int mo_torn, .ref mo_had])), (mo_st, .inl (k 0, 132, .inl (sf)))]) hP [0, 1] rfl) (hD.sub (ws' := [(mo, .inr (7, [.ref mo_st, .ref mo_at, .ref mo_isKept, .int (nI mo_pe), .int (nI mo_hm), .ref mo_draft, .int (nI mo_dp), .int (nI mo_dh), .int mo_toldLines, .int mo_highest, .ref mo_tape, .int (nI mo_tl), .int (nI mo_ps), .int (nI mo_fr), .int mo_sort, .int mo_value, .int (nI mo_ft), .int mo_wrongAt, .ref mo_row, .int mo_orderMany, .int (nI mo_fo), .int mo_lightest, .int mo_heaviest, .ref mo_before, .long mo_justSum, .long mo_toldSum, .long mo_allWays, .ref mo_lanes, .ref mo_sizes, .ref mo_cells, .int mo_torn, .ref mo_had])), (mo_st, .inl (k 0, 132, .inl (sf)))]) [0, 1] (by decide) rfl) (ci := 7) (q0 := 0) rfl rfl) rfl rfl hl.1 rfl (lv_room (Nat.le_of_ble_eq_true rfl)) dX8_split_2 ⟨Nat.le_of_ble_eq_true rfl, Nat.le_of_ble_eq_true rfl⟩) hP hD hS hA [0, 1] [] [] rfl rfl (by decide) (by decide) [0, 1] (fun u_3 => [(mo, .inr (7, [.ref mo_st, .ref mo_at, .ref mo_isKept, .int (nI mo_pe), .int (nI mo_hm), .ref mo_draft, .int (nI mo_dp), .int (nI mo_dh), .int mo_toldLines, .int mo_highest, .ref mo_tape, .int (nI mo_tl), .int (nI mo_ps), .int (nI mo_fr), .int mo_sort, .int mo_value, .int (nI mo_ft), .int mo_wrongAt, .ref mo_row, .int mo_orderMany, .int (nI mo_fo), .int mo_lightest, .int mo_heaviest, .ref mo_before, .long mo_justSum, .long mo_toldSum, .long mo_allWays, .ref mo_lanes, .ref mo_sizes, .ref mo_cells, .int mo_torn, .ref mo_had])), (mo_st, .inl (k 0, 132, .inl (sf)))]) (fun _ => rfl) (by decide) (fun r_1 u_3 H locs hw_2 hP hD hS => ?_)
  have hP : va_P D vwCl [(mo, .inr (7, [.ref mo_st, .ref mo_at, .ref mo_isKept, .int (nI mo_pe), .int (nI mo_hm), .ref mo_draft, .int (nI mo_dp), .int (nI mo_dh), .int mo_toldLines, .int mo_highest, .ref mo_tape, .int (nI mo_tl), .int (nI mo_ps), .int (nI mo_fr), .int mo_sort, .int mo_value, .int (nI mo_ft), .int mo_wrongAt, .ref mo_row, .int mo_orderMany, .int (nI mo_fo), .int mo_lightest, .int mo_heaviest, .ref mo_before, .long mo_justSum, .long mo_toldSum, .long mo_allWays, .ref mo_lanes, .ref mo_sizes, .ref mo_cells, .int mo_torn, .ref mo_had])), (mo_st, .inl (k 0, 132, .inl (sf)))] H := hP
  have hD : va_D A [(mo, .inr (7, [.ref mo_st, .ref mo_at, .ref mo_isKept, .int (nI mo_pe), .int (nI mo_hm), .ref mo_draft, .int (nI mo_dp), .int (nI mo_dh), .int mo_toldLines, .int mo_highest, .ref mo_tape, .int (nI mo_tl), .int (nI mo_ps), .int (nI mo_fr), .int mo_sort, .int mo_value, .int (nI mo_ft), .int mo_wrongAt, .ref mo_row, .int mo_orderMany, .int (nI mo_fo), .int mo_lightest, .int mo_heaviest, .ref mo_before, .long mo_justSum, .long mo_toldSum, .long mo_allWays, .ref mo_lanes, .ref mo_sizes, .ref mo_cells, .int mo_torn, .ref mo_had])), (mo_st, .inl (k 0, 132, .inl (sf)))] := hD
  refine hs_topi (hsb (hslt i c0)) hw_2 ?_
  refine lv_if_ne (tgt := 10) hx hb dX8_split_5 (by decide) (fun c_4 => ?_) (fun c_4 => ?_)
  · obtain ⟨ji, hji, rfl⟩ := hslt_ex (hs_nb c_4)
    refine lv_aload_n hx hb dX8_split_10 rfl (lv_at hl 0 rfl) ?_
    refine va_get (D := D) (ci := 7) (v := .ref mo_st) (C := RX8) (T := TX8) (N := 32) hx hb hts hiX8 hown hK hP 0 rfl rfl 0 (by decide) fl7 (fun _ h9 => h9) rfl dX8_split_11 ?_
    refine lv_iconst (v := 0) hx hb dX8_split_14 (by decide) ?_
    refine va_iald hx hb hK hP 1 0 rfl rfl (hs_in (by decide)) dX8_split_15 ?_
    refine hs_topi (nI c0) e0 ?_
    refine lv_bipush (v := 8) hx hb dX8_split_16 (by decide) ?_
    refine lv_icmp_ne (tgt := 24) hx hb dX8_split_18 (by decide) (fun c_5 => ?_) (fun c_5 => ?_)
    · have nc_5 : ¬ c0 = 8 := fun hq9 => c_5 ((nI_eq (a := c0) (b := 8) (by omega) (by omega)).mpr hq9)
      refine lv_aload_n hx hb dX8_split_24 rfl (lv_at hl 0 rfl) ?_
      refine va_get (D := D) (ci := 7) (v := .ref mo_st) (C := RX8) (T := TX8) (N := 32) hx hb hts hiX8 hown hK hP 0 rfl rfl 0 (by decide) fl7 (fun _ h9 => h9) rfl dX8_split_25 ?_
      refine lv_iconst (v := 0) hx hb dX8_split_28 (by decide) ?_
      refine va_iald hx hb hK hP 1 0 rfl rfl (hs_in (by decide)) dX8_split_29 ?_
      refine hs_topi (nI c0) e0 ?_
      refine lv_istore_n (lv' := [(2, .int (nI c0)), (0, .ref mo), (1, .int (nI ji))]) hx hb dX8_split_30 rfl hl (by decide) rfl (fun ls hl => ?_)
      refine hs_while (σ := Nat × (Nat → Int32)) (fun x => ji ≤ x.1 ∧ x.1 ≤ c0 ∧ ∀ q, ¬ (1 ≤ q ∧ q ≤ 8) → x.2 q = sf q) (fun x => x.1) (fun x => [(mo, .inr (7, [.ref mo_st, .ref mo_at, .ref mo_isKept, .int (nI mo_pe), .int (nI mo_hm), .ref mo_draft, .int (nI mo_dp), .int (nI mo_dh), .int mo_toldLines, .int mo_highest, .ref mo_tape, .int (nI mo_tl), .int (nI mo_ps), .int (nI mo_fr), .int mo_sort, .int mo_value, .int (nI mo_ft), .int mo_wrongAt, .ref mo_row, .int mo_orderMany, .int (nI mo_fo), .int mo_lightest, .int mo_heaviest, .ref mo_before, .long mo_justSum, .long mo_toldSum, .long mo_allWays, .ref mo_lanes, .ref mo_sizes, .ref mo_cells, .int mo_torn, .ref mo_had])), (mo_st, .inl (k 0, 132, .inl ((x.2))))]) (fun x => [(2, .int (nI (x.1))), (0, .ref mo), (1, .int (nI ji))]) ?_ (c0, sf) ?_ hP hD hS hl
      · intro x hI ih31 H locs ls hP hD hS hl
        obtain ⟨kx, g⟩ := x
        try dsimp only at hI
        have hP : va_P D vwCl [(mo, .inr (7, [.ref mo_st, .ref mo_at, .ref mo_isKept, .int (nI mo_pe), .int (nI mo_hm), .ref mo_draft, .int (nI mo_dp), .int (nI mo_dh), .int mo_toldLines, .int mo_highest, .ref mo_tape, .int (nI mo_tl), .int (nI mo_ps), .int (nI mo_fr), .int mo_sort, .int mo_value, .int (nI mo_ft), .int mo_wrongAt, .ref mo_row, .int mo_orderMany, .int (nI mo_fo), .int mo_lightest, .int mo_heaviest, .ref mo_before, .long mo_justSum, .long mo_toldSum, .long mo_allWays, .ref mo_lanes, .ref mo_sizes, .ref mo_cells, .int mo_torn, .ref mo_had])), (mo_st, .inl (k 0, 132, .inl (g)))] H := hP
        have hD : va_D A [(mo, .inr (7, [.ref mo_st, .ref mo_at, .ref mo_isKept, .int (nI mo_pe), .int (nI mo_hm), .ref mo_draft, .int (nI mo_dp), .int (nI mo_dh), .int mo_toldLines, .int mo_highest, .ref mo_tape, .int (nI mo_tl), .int (nI mo_ps), .int (nI mo_fr), .int mo_sort, .int mo_value, .int (nI mo_ft), .int mo_wrongAt, .ref mo_row, .int mo_orderMany, .int (nI mo_fo), .int mo_lightest, .int mo_heaviest, .ref mo_before, .long mo_justSum, .long mo_toldSum, .long mo_allWays, .ref mo_lanes, .ref mo_sizes, .ref mo_cells, .int mo_torn, .ref mo_had])), (mo_st, .inl (k 0, 132, .inl (g)))] := hD
        have hl : lv_has ls 3 [(2, .int (nI kx)), (0, .ref mo), (1, .int (nI ji))] := hl
        refine lv_iload_n hx hb dX8_split_31 rfl (lv_at hl 0 rfl) ?_
        refine lv_iload_n hx hb dX8_split_32 rfl (lv_at hl 2 rfl) ?_
        refine lv_icmp_le (tgt := 60) hx hb dX8_split_33 (by decide) (fun c_6 => ?_) (fun c_6 => ?_)
        · have nc_6 : kx ≤ ji := (nI_leI (a := kx) (b := ji) (by omega) (by omega)).mp c_6
          refine lv_aload_n hx hb dX8_split_60 rfl (lv_at hl 1 rfl) ?_
          refine va_get (D := D) (ci := 7) (v := .ref mo_st) (C := RX8) (T := TX8) (N := 32) hx hb hts hiX8 hown hK hP 0 rfl rfl 0 (by decide) fl7 (fun _ h9 => h9) rfl dX8_split_61 ?_
          refine lv_iconst (v := 1) hx hb dX8_split_64 (by decide) ?_
          refine lv_iload_n hx hb dX8_split_65 rfl (lv_at hl 2 rfl) ?_
          refine lv_iadd hx hb dX8_split_66 ?_
          refine hs_topi (nI (1 + ji)) (nI_add (1) (ji)) ?_
          refine va_iald hx hb hK hP 1 0 rfl rfl (vp_in_nI (show (1 + ji) < 132 by omega) (by decide)) dX8_split_67 ?_
          refine lv_istore_n (lv' := [(2, .int (g (nI (1 + ji)).toNatClampNeg)), (0, .ref mo), (1, .int (nI ji))]) hx hb dX8_split_68 rfl hl (by decide) rfl (fun ls hl => ?_)
          refine lv_aload_n hx hb dX8_split_69 rfl (lv_at hl 1 rfl) ?_
          refine va_get (D := D) (ci := 7) (v := .ref mo_st) (C := RX8) (T := TX8) (N := 32) hx hb hts hiX8 hown hK hP 0 rfl rfl 0 (by decide) fl7 (fun _ h9 => h9) rfl dX8_split_70 ?_
          refine lv_iconst (v := 1) hx hb dX8_split_73 (by decide) ?_
          refine lv_iload_n hx hb dX8_split_74 rfl (lv_at hl 2 rfl) ?_
          refine lv_iadd hx hb dX8_split_75 ?_
          refine hs_topi (nI (1 + ji)) (nI_add (1) (ji)) ?_
          refine lv_iload_n hx hb dX8_split_76 rfl (lv_at hl 0 rfl) ?_
          refine lv_iload_n hx hb dX8_split_77 rfl (lv_at hl 0 rfl) ?_
          refine lv_iconst (v := 2) hx hb dX8_split_78 (by decide) ?_
          refine lv_idiv hx hb dX8_split_79 (by decide) ?_
          refine lv_isub hx hb dX8_split_80 ?_
          refine va_iast hx hb hK hP hD hS 1 0 rfl rfl (vp_in_nI (show (1 + ji) < 132 by omega) (by decide)) dX8_split_81 (fun H locs hP hD hS => ?_)
          have hP : va_P D vwCl [(mo, .inr (7, [.ref mo_st, .ref mo_at, .ref mo_isKept, .int (nI mo_pe), .int (nI mo_hm), .ref mo_draft, .int (nI mo_dp), .int (nI mo_dh), .int mo_toldLines, .int mo_highest, .ref mo_tape, .int (nI mo_tl), .int (nI mo_ps), .int (nI mo_fr), .int mo_sort, .int mo_value, .int (nI mo_ft), .int mo_wrongAt, .ref mo_row, .int mo_orderMany, .int (nI mo_fo), .int mo_lightest, .int mo_heaviest, .ref mo_before, .long mo_justSum, .long mo_toldSum, .long mo_allWays, .ref mo_lanes, .ref mo_sizes, .ref mo_cells, .int mo_torn, .ref mo_had])), (mo_st, .inl (k 0, 132, .inl (upd g ((nI (1 + ji)).toNatClampNeg) ((g (nI (1 + ji)).toNatClampNeg) - ((g (nI (1 + ji)).toNatClampNeg) / 2)))))] H := hP
          have hD : va_D A [(mo, .inr (7, [.ref mo_st, .ref mo_at, .ref mo_isKept, .int (nI mo_pe), .int (nI mo_hm), .ref mo_draft, .int (nI mo_dp), .int (nI mo_dh), .int mo_toldLines, .int mo_highest, .ref mo_tape, .int (nI mo_tl), .int (nI mo_ps), .int (nI mo_fr), .int mo_sort, .int mo_value, .int (nI mo_ft), .int mo_wrongAt, .ref mo_row, .int mo_orderMany, .int (nI mo_fo), .int mo_lightest, .int mo_heaviest, .ref mo_before, .long mo_justSum, .long mo_toldSum, .long mo_allWays, .ref mo_lanes, .ref mo_sizes, .ref mo_cells, .int mo_torn, .ref mo_had])), (mo_st, .inl (k 0, 132, .inl (upd g ((nI (1 + ji)).toNatClampNeg) ((g (nI (1 + ji)).toNatClampNeg) - ((g (nI (1 + ji)).toNatClampNeg) / 2)))))] := hD
          refine lv_aload_n hx hb dX8_split_82 rfl (lv_at hl 1 rfl) ?_
          refine va_get (D := D) (ci := 7) (v := .ref mo_st) (C := RX8) (T := TX8) (N := 32) hx hb hts hiX8 hown hK hP 0 rfl rfl 0 (by decide) fl7 (fun _ h9 => h9) rfl dX8_split_83 ?_
          refine lv_iconst (v := 1) hx hb dX8_split_86 (by decide) ?_
          refine lv_iload_n hx hb dX8_split_87 rfl (lv_at hl 2 rfl) ?_
          refine lv_iadd hx hb dX8_split_88 ?_
          refine hs_topi (nI (1 + ji)) (nI_add (1) (ji)) ?_
          refine lv_iconst (v := 1) hx hb dX8_split_89 (by decide) ?_
          refine lv_iadd hx hb dX8_split_90 ?_
          refine hs_topi (nI ((1 + ji) + 1)) (nI_add ((1 + ji)) (1)) ?_
          refine lv_iload_n hx hb dX8_split_91 rfl (lv_at hl 0 rfl) ?_
          refine lv_iconst (v := 2) hx hb dX8_split_92 (by decide) ?_
          refine lv_idiv hx hb dX8_split_93 (by decide) ?_
          refine va_iast hx hb hK hP hD hS 1 0 rfl rfl (vp_in_nI (show ((1 + ji) + 1) < 132 by omega) (by decide)) dX8_split_94 (fun H locs hP hD hS => ?_)
          have hP : va_P D vwCl [(mo, .inr (7, [.ref mo_st, .ref mo_at, .ref mo_isKept, .int (nI mo_pe), .int (nI mo_hm), .ref mo_draft, .int (nI mo_dp), .int (nI mo_dh), .int mo_toldLines, .int mo_highest, .ref mo_tape, .int (nI mo_tl), .int (nI mo_ps), .int (nI mo_fr), .int mo_sort, .int mo_value, .int (nI mo_ft), .int mo_wrongAt, .ref mo_row, .int mo_orderMany, .int (nI mo_fo), .int mo_lightest, .int mo_heaviest, .ref mo_before, .long mo_justSum, .long mo_toldSum, .long mo_allWays, .ref mo_lanes, .ref mo_sizes, .ref mo_cells, .int mo_torn, .ref mo_had])), (mo_st, .inl (k 0, 132, .inl (upd (upd g ((nI (1 + ji)).toNatClampNeg) ((g (nI (1 + ji)).toNatClampNeg) - ((g (nI (1 + ji)).toNatClampNeg) / 2))) ((nI ((1 + ji) + 1)).toNatClampNeg) ((g (nI (1 + ji)).toNatClampNeg) / 2))))] H := hP
          have hD : va_D A [(mo, .inr (7, [.ref mo_st, .ref mo_at, .ref mo_isKept, .int (nI mo_pe), .int (nI mo_hm), .ref mo_draft, .int (nI mo_dp), .int (nI mo_dh), .int mo_toldLines, .int mo_highest, .ref mo_tape, .int (nI mo_tl), .int (nI mo_ps), .int (nI mo_fr), .int mo_sort, .int mo_value, .int (nI mo_ft), .int mo_wrongAt, .ref mo_row, .int mo_orderMany, .int (nI mo_fo), .int mo_lightest, .int mo_heaviest, .ref mo_before, .long mo_justSum, .long mo_toldSum, .long mo_allWays, .ref mo_lanes, .ref mo_sizes, .ref mo_cells, .int mo_torn, .ref mo_had])), (mo_st, .inl (k 0, 132, .inl (upd (upd g ((nI (1 + ji)).toNatClampNeg) ((g (nI (1 + ji)).toNatClampNeg) - ((g (nI (1 + ji)).toNatClampNeg) / 2))) ((nI ((1 + ji) + 1)).toNatClampNeg) ((g (nI (1 + ji)).toNatClampNeg) / 2))))] := hD
          refine lv_aload_n hx hb dX8_split_95 rfl (lv_at hl 1 rfl) ?_
          refine va_get (D := D) (ci := 7) (v := .ref mo_st) (C := RX8) (T := TX8) (N := 32) hx hb hts hiX8 hown hK hP 0 rfl rfl 0 (by decide) fl7 (fun _ h9 => h9) rfl dX8_split_96 ?_
          refine lv_iconst (v := 0) hx hb dX8_split_99 (by decide) ?_
          refine lv_dup2_11 hx hb dX8_split_100 rfl rfl ?_
          refine va_iald hx hb hK hP 1 0 rfl rfl (hs_in (by decide)) dX8_split_101 ?_
          refine hs_topi (nI c0) ((hs_uc (q := 0) (by omega) (by omega)).trans ((hs_uc (q := 0) (by omega) (by omega)).trans ((hI.2.2 0 (by omega)).trans e0))) ?_
          refine lv_iconst (v := 1) hx hb dX8_split_102 (by decide) ?_
          refine lv_iadd hx hb dX8_split_103 ?_
          refine hs_topi (nI (c0 + 1)) (nI_add (c0) (1)) ?_
          refine va_iast hx hb hK hP hD hS 1 0 rfl rfl (hs_in (by decide)) dX8_split_104 (fun H locs hP hD hS => ?_)
          have hP : va_P D vwCl [(mo, .inr (7, [.ref mo_st, .ref mo_at, .ref mo_isKept, .int (nI mo_pe), .int (nI mo_hm), .ref mo_draft, .int (nI mo_dp), .int (nI mo_dh), .int mo_toldLines, .int mo_highest, .ref mo_tape, .int (nI mo_tl), .int (nI mo_ps), .int (nI mo_fr), .int mo_sort, .int mo_value, .int (nI mo_ft), .int mo_wrongAt, .ref mo_row, .int mo_orderMany, .int (nI mo_fo), .int mo_lightest, .int mo_heaviest, .ref mo_before, .long mo_justSum, .long mo_toldSum, .long mo_allWays, .ref mo_lanes, .ref mo_sizes, .ref mo_cells, .int mo_torn, .ref mo_had])), (mo_st, .inl (k 0, 132, .inl (upd (upd (upd g ((nI (1 + ji)).toNatClampNeg) ((g (nI (1 + ji)).toNatClampNeg) - ((g (nI (1 + ji)).toNatClampNeg) / 2))) ((nI ((1 + ji) + 1)).toNatClampNeg) ((g (nI (1 + ji)).toNatClampNeg) / 2)) 0 (nI (c0 + 1)))))] H := hP
          have hD : va_D A [(mo, .inr (7, [.ref mo_st, .ref mo_at, .ref mo_isKept, .int (nI mo_pe), .int (nI mo_hm), .ref mo_draft, .int (nI mo_dp), .int (nI mo_dh), .int mo_toldLines, .int mo_highest, .ref mo_tape, .int (nI mo_tl), .int (nI mo_ps), .int (nI mo_fr), .int mo_sort, .int mo_value, .int (nI mo_ft), .int mo_wrongAt, .ref mo_row, .int mo_orderMany, .int (nI mo_fo), .int mo_lightest, .int mo_heaviest, .ref mo_before, .long mo_justSum, .long mo_toldSum, .long mo_allWays, .ref mo_lanes, .ref mo_sizes, .ref mo_cells, .int mo_torn, .ref mo_had])), (mo_st, .inl (k 0, 132, .inl (upd (upd (upd g ((nI (1 + ji)).toNatClampNeg) ((g (nI (1 + ji)).toNatClampNeg) - ((g (nI (1 + ji)).toNatClampNeg) / 2))) ((nI ((1 + ji) + 1)).toNatClampNeg) ((g (nI (1 + ji)).toNatClampNeg) / 2)) 0 (nI (c0 + 1)))))] := hD
          refine lv_aload_n hx hb dX8_split_105 rfl (lv_at hl 1 rfl) ?_
          refine va_get (D := D) (ci := 7) (v := .ref mo_st) (C := RX8) (T := TX8) (N := 32) hx hb hts hiX8 hown hK hP 0 rfl rfl 0 (by decide) fl7 (fun _ h9 => h9) rfl dX8_split_106 ?_
          refine lv_iconst (v := 0) hx hb dX8_split_109 (by decide) ?_
          refine va_iald hx hb hK hP 1 0 rfl rfl (hs_in (by decide)) dX8_split_110 ?_
          refine hs_topi (nI (c0 + 1)) (by first | rfl | decide +kernel) ?_
          exact hs_iret hx hb hr hlocks hK hP hD hS (upd (upd (upd g ((nI (1 + ji)).toNatClampNeg) ((g (nI (1 + ji)).toNatClampNeg) - ((g (nI (1 + ji)).toNatClampNeg) / 2))) ((nI ((1 + ji) + 1)).toNatClampNeg) ((g (nI (1 + ji)).toNatClampNeg) / 2)) 0 (nI (c0 + 1))) [0, 1] rfl (by decide) dX8_split_111 (⟨fun q hq => by (try dsimp only); rw [hs_un (by omega), hs_uc (by omega) (by omega), hs_uc (by omega) (by omega)]; exact hI.2.2 q (by omega), c0 + 1, (by (try dsimp only); exact hs_uq rfl), by omega, by omega⟩)
        · have nc_6 : ¬ kx ≤ ji := fun hq9 => c_6 ((nI_leI (a := kx) (b := ji) (by omega) (by omega)).mpr hq9)
          refine lv_aload_n hx hb dX8_split_36 rfl (lv_at hl 1 rfl) ?_
          refine va_get (D := D) (ci := 7) (v := .ref mo_st) (C := RX8) (T := TX8) (N := 32) hx hb hts hiX8 hown hK hP 0 rfl rfl 0 (by decide) fl7 (fun _ h9 => h9) rfl dX8_split_37 ?_
          refine lv_iconst (v := 1) hx hb dX8_split_40 (by decide) ?_
          refine lv_iload_n hx hb dX8_split_41 rfl (lv_at hl 0 rfl) ?_
          refine lv_iadd hx hb dX8_split_42 ?_
          refine hs_topi (nI (1 + kx)) (nI_add (1) (kx)) ?_
          refine lv_aload_n hx hb dX8_split_43 rfl (lv_at hl 1 rfl) ?_
          refine va_get (D := D) (ci := 7) (v := .ref mo_st) (C := RX8) (T := TX8) (N := 32) hx hb hts hiX8 hown hK hP 0 rfl rfl 0 (by decide) fl7 (fun _ h9 => h9) rfl dX8_split_44 ?_
          refine lv_iconst (v := 1) hx hb dX8_split_47 (by decide) ?_
          refine lv_iload_n hx hb dX8_split_48 rfl (lv_at hl 0 rfl) ?_
          refine lv_iadd hx hb dX8_split_49 ?_
          refine hs_topi (nI (1 + kx)) (nI_add (1) (kx)) ?_
          refine lv_iconst (v := 1) hx hb dX8_split_50 (by decide) ?_
          refine lv_isub hx hb dX8_split_51 ?_
          refine hs_topi (nI ((1 + kx) - 1)) (pk_sub (a := (1 + kx)) (b := 1) (by omega)) ?_
          refine va_iald hx hb hK hP 1 0 rfl rfl (vp_in_nI (show ((1 + kx) - 1) < 132 by omega) (by decide)) dX8_split_52 ?_
          refine va_iast hx hb hK hP hD hS 1 0 rfl rfl (vp_in_nI (show (1 + kx) < 132 by omega) (by decide)) dX8_split_53 (fun H locs hP hD hS => ?_)
          have hP : va_P D vwCl [(mo, .inr (7, [.ref mo_st, .ref mo_at, .ref mo_isKept, .int (nI mo_pe), .int (nI mo_hm), .ref mo_draft, .int (nI mo_dp), .int (nI mo_dh), .int mo_toldLines, .int mo_highest, .ref mo_tape, .int (nI mo_tl), .int (nI mo_ps), .int (nI mo_fr), .int mo_sort, .int mo_value, .int (nI mo_ft), .int mo_wrongAt, .ref mo_row, .int mo_orderMany, .int (nI mo_fo), .int mo_lightest, .int mo_heaviest, .ref mo_before, .long mo_justSum, .long mo_toldSum, .long mo_allWays, .ref mo_lanes, .ref mo_sizes, .ref mo_cells, .int mo_torn, .ref mo_had])), (mo_st, .inl (k 0, 132, .inl (upd g ((nI (1 + kx)).toNatClampNeg) (g (nI ((1 + kx) - 1)).toNatClampNeg))))] H := hP
          have hD : va_D A [(mo, .inr (7, [.ref mo_st, .ref mo_at, .ref mo_isKept, .int (nI mo_pe), .int (nI mo_hm), .ref mo_draft, .int (nI mo_dp), .int (nI mo_dh), .int mo_toldLines, .int mo_highest, .ref mo_tape, .int (nI mo_tl), .int (nI mo_ps), .int (nI mo_fr), .int mo_sort, .int mo_value, .int (nI mo_ft), .int mo_wrongAt, .ref mo_row, .int mo_orderMany, .int (nI mo_fo), .int mo_lightest, .int mo_heaviest, .ref mo_before, .long mo_justSum, .long mo_toldSum, .long mo_allWays, .ref mo_lanes, .ref mo_sizes, .ref mo_cells, .int mo_torn, .ref mo_had])), (mo_st, .inl (k 0, 132, .inl (upd g ((nI (1 + kx)).toNatClampNeg) (g (nI ((1 + kx) - 1)).toNatClampNeg))))] := hD
          refine lv_iinc (v := nI (kx - 1)) (lv' := [(2, .int (nI (kx - 1))), (0, .ref mo), (1, .int (nI ji))]) hx hb dX8_split_54 hl (k := 0) rfl (hs_m1 (n := kx) (by omega)) (by decide) rfl (fun ls hl => ?_)
          refine lv_goto (tgt := 31) hx hb dX8_split_57 (by decide) ?_
          exact ih31 (kx - 1, upd g ((nI (1 + kx)).toNatClampNeg) (g (nI ((1 + kx) - 1)).toNatClampNeg)) (by (try dsimp only); exact ⟨by omega, by omega, fun q hq => by rw [hs_uc (by omega) (by omega)]; exact hI.2.2 q hq⟩) (by (try dsimp only); omega) _ _ _ hP hD hS (lv_sub hl [0, 1, 2] rfl)
      · (try dsimp only); exact ⟨by omega, by omega, fun _ _ => rfl⟩
    · have nc_5 : c0 = 8 := (nI_eq (a := c0) (b := 8) (by omega) (by omega)).mp c_5
      refine lv_bipush (v := (-3)) hx hb dX8_split_21 (by decide) ?_
      exact hs_iret hx hb hr hlocks hK hP hD hS sf [0, 1] rfl (by decide) dX8_split_23 (⟨fun _ _ => rfl, c0, e0, by omega, by omega⟩)
  · refine lv_iconst (v := (-1)) hx hb dX8_split_8 (by decide) ?_
    exact hs_iret hx hb hr hlocks hK hP hD hS sf [0, 1] rfl (by decide) dX8_split_9 (⟨fun _ _ => rfl, c0, e0, by omega, by omega⟩)

set_option maxHeartbeats 4000000 in
set_option maxRecDepth 100000 in
theorem gq_join (l : Launch) (D : va_G) (k : Nat → ClassId) (sz : Nat) (mo : Nat) (mo_st : Nat) (mo_at : Nat) (mo_isKept : Nat) (mo_pe : Nat) (mo_hm : Nat) (mo_draft : Nat) (mo_dp : Nat) (mo_dh : Nat) (mo_toldLines : Int32) (mo_highest : Int32) (mo_tape : Nat) (mo_tl : Nat) (mo_ps : Nat) (mo_fr : Nat) (mo_sort : Int32) (mo_value : Int32) (mo_ft : Nat) (mo_wrongAt : Int32) (mo_row : Nat) (mo_orderMany : Int32) (mo_fo : Nat) (mo_lightest : Int32) (mo_heaviest : Int32) (mo_before : Nat) (mo_justSum : Int64) (mo_toldSum : Int64) (mo_allWays : Int64) (mo_lanes : Nat) (mo_sizes : Nat) (mo_cells : Nat) (mo_torn : Int32) (mo_had : Nat) (sf : Nat → Int32) (c0 : Nat) (c3 : Nat) (c4 : Nat) (fi : Nat) (i : Int32) (e0 : sf 0 = nI c0) (h0 : c0 ≤ 8) (h02 : 2 ≤ c0) (e3 : sf 16 = nI c3) (h3 : c3 ≤ 8) (e4 : sf 25 = nI c4) (h4 : c4 ≤ 6) (hpe : mo_pe ≤ 4) (hm2 : 2 ≤ mo_hm) (hm5 : mo_hm ≤ 5) (ef : sf 14 = nI fi) (hfi : fi ≤ 99) (hsaw : ∀ i, i < c4 → vp_in (sf (26 + 3 * i)) 4) : MI l yX8_join wsX8_join ({ frames := 1, cells := 0, slots := 0, locals := 25 }) D k [.ref mo, .int i] [(mo, .inr (7, [.ref mo_st, .ref mo_at, .ref mo_isKept, .int (nI mo_pe), .int (nI mo_hm), .ref mo_draft, .int (nI mo_dp), .int (nI mo_dh), .int mo_toldLines, .int mo_highest, .ref mo_tape, .int (nI mo_tl), .int (nI mo_ps), .int (nI mo_fr), .int mo_sort, .int mo_value, .int (nI mo_ft), .int mo_wrongAt, .ref mo_row, .int mo_orderMany, .int (nI mo_fo), .int mo_lightest, .int mo_heaviest, .ref mo_before, .long mo_justSum, .long mo_toldSum, .long mo_allWays, .ref mo_lanes, .ref mo_sizes, .ref mo_cells, .int mo_torn, .ref mo_had])), (mo_st, .inl (k 0, 132, .inl (sf)))] sz (fun (r : Int32) (u : Nat → Int32) => (∀ q, ¬ q ≤ 9 → u q = sf q) ∧ ∃ c : Nat, u 0 = nI c ∧ 2 ≤ c ∧ c ≤ 8) (fun (u : Nat → Int32) => [(mo, .inr (7, [.ref mo_st, .ref mo_at, .ref mo_isKept, .int (nI mo_pe), .int (nI mo_hm), .ref mo_draft, .int (nI mo_dp), .int (nI mo_dh), .int mo_toldLines, .int mo_highest, .ref mo_tape, .int (nI mo_tl), .int (nI mo_ps), .int (nI mo_fr), .int mo_sort, .int mo_value, .int (nI mo_ft), .int mo_wrongAt, .ref mo_row, .int mo_orderMany, .int (nI mo_fo), .int mo_lightest, .int mo_heaviest, .ref mo_before, .long mo_justSum, .long mo_toldSum, .long mo_allWays, .ref mo_lanes, .ref mo_sizes, .ref mo_cells, .int mo_torn, .ref mo_had])), (mo_st, .inl (k 0, 132, .inl (u)))]) := by
  refine Met.ofW (cc := cX8_join) (maxL := 4) (ret := (some .int)) (by decide) rfl ?_
  intro p e s m args below meth c s₁ B hml hv
  obtain ⟨rfl, hsz, hP, hK, hD0, hN⟩ := hv
  have hx := B.exec
  have hb := B.bytes
  have hr := B.returns
  have hlocks := B.notSynchronized
  have hts := atoms_spec (ws := wsX8_join) B.pre
  have hown : s.vm.findClass RX8 = some m.cls := findClass_of_methodNamed B.named
  have hiX8 : ∀ w ∈ u_ws RX8 TX8 32, w ∈ wsX8_join := by decide +kernel
  have fl7 := hts (.fieldLink RX8 7 "HalfScalesModel" "st" "[I") (by decide +kernel)
  subst hsz
  have hD := hD0.self (sz := s.heap.size)
  generalize hAe : va_A [(mo, .inr (7, [.ref mo_st, .ref mo_at, .ref mo_isKept, .int (nI mo_pe), .int (nI mo_hm), .ref mo_draft, .int (nI mo_dp), .int (nI mo_dh), .int mo_toldLines, .int mo_highest, .ref mo_tape, .int (nI mo_tl), .int (nI mo_ps), .int (nI mo_fr), .int mo_sort, .int mo_value, .int (nI mo_ft), .int mo_wrongAt, .ref mo_row, .int mo_orderMany, .int (nI mo_fo), .int mo_lightest, .int mo_heaviest, .ref mo_before, .long mo_justSum, .long mo_toldSum, .long mo_allWays, .ref mo_lanes, .ref mo_sizes, .ref mo_cells, .int mo_torn, .ref mo_had])), (mo_st, .inl (k 0, 132, .inl (sf)))] s.heap.size = A at hD ⊢
  have hA : ∀ q : Nat, s.heap.size ≤ q → A q := fun q h => by rw [← hAe]; exact Or.inr h
  have hS : va_S A s.heap s.heap [] := va_S.rf
  have hl := lv_entry ([.ref mo, .int i]) (n := 4) (Nat.le_of_ble_eq_true rfl)
  rw [lg_entry_eq]
  generalize (lg_sl ([.ref mo, .int i]) ++ List.replicate (4 - (lg_sl ([.ref mo, .int i])).length) Slot.unset).toArray = ls at hl ⊢
  have hl : lv_has ls 4 [(0, .ref mo), (1, .int i)] := hl
  have hP : va_P D vwCl [(mo, .inr (7, [.ref mo_st, .ref mo_at, .ref mo_isKept, .int (nI mo_pe), .int (nI mo_hm), .ref mo_draft, .int (nI mo_dp), .int (nI mo_dh), .int mo_toldLines, .int mo_highest, .ref mo_tape, .int (nI mo_tl), .int (nI mo_ps), .int (nI mo_fr), .int mo_sort, .int mo_value, .int (nI mo_ft), .int mo_wrongAt, .ref mo_row, .int mo_orderMany, .int (nI mo_fo), .int mo_lightest, .int mo_heaviest, .ref mo_before, .long mo_justSum, .long mo_toldSum, .long mo_allWays, .ref mo_lanes, .ref mo_sizes, .ref mo_cells, .int mo_torn, .ref mo_had])), (mo_st, .inl (k 0, 132, .inl (sf)))] s.heap := hP
  refine lv_iload_n hx hb dX8_join_0 rfl (lv_at hl 1 rfl) ?_
  refine lv_i2l hx hb dX8_join_1 rfl ?_
  refine lv_lconst (v := 0) hx hb dX8_join_2 (by decide) ?_
  refine lv_aload_n hx hb dX8_join_3 rfl (lv_at hl 0 rfl) ?_
  refine va_get (D := D) (ci := 7) (v := .ref mo_st) (C := RX8) (T := TX8) (N := 32) hx hb hts hiX8 hown hK hP 0 rfl rfl 0 (by decide) fl7 (fun _ h9 => h9) rfl dX8_join_4 ?_
  refine lv_iconst (v := 0) hx hb dX8_join_7 (by decide) ?_
  refine va_iald hx hb hK hP 1 0 rfl rfl (hs_in (by decide)) dX8_join_8 ?_
  refine hs_topi (nI c0) e0 ?_
  refine lv_iconst (v := 2) hx hb dX8_join_9 (by decide) ?_
  refine lv_isub hx hb dX8_join_10 ?_
  refine hs_topi (nI (c0 - 2)) (pk_sub (a := c0) (b := 2) (by omega)) ?_
  refine lv_i2l hx hb dX8_join_11 rfl ?_
  refine hs_pi (va_runS (As := [.long (((i) : Int32).toInt64), .long 0, .long (((nI (c0 - 2)) : Int32).toInt64)]) (rest := []) ⟨hx, hb, hml, hown, hts⟩ (gm_in l D k _ i 0 (nI (c0 - 2))) (va_cwS 3 hts gX8_join_X8_in rfl rfl rfl (by decide +kernel) ⟨Nat.le_of_ble_eq_true rfl, Nat.le_of_ble_eq_true rfl⟩) (hs_preS hK hN (hs_subP (w := []) hP [] rfl) (hD.sub (ws' := []) [] (by decide) rfl)) rfl rfl hl.1 rfl (lv_room (Nat.le_of_ble_eq_true rfl)) dX8_join_12 ⟨Nat.le_of_ble_eq_true rfl, Nat.le_of_ble_eq_true rfl⟩) hP hD hS hA (fun r_1 u_3 H locs hw_2 hP hS => ?_)
  refine hs_topi (hsb (hsin i 0 (nI (c0 - 2)))) hw_2 ?_
  refine lv_if_ne (tgt := 20) hx hb dX8_join_15 (by decide) (fun c_4 => ?_) (fun c_4 => ?_)
  · obtain ⟨ji, hji, hjib, rfl⟩ := hs_rng (lo := 0) (hi := (c0 - 2)) (by omega) (by omega) (hs_nb c_4)
    refine lv_aload_n hx hb dX8_join_20 rfl (lv_at hl 0 rfl) ?_
    refine va_get (D := D) (ci := 7) (v := .ref mo_st) (C := RX8) (T := TX8) (N := 32) hx hb hts hiX8 hown hK hP 0 rfl rfl 0 (by decide) fl7 (fun _ h9 => h9) rfl dX8_join_21 ?_
    refine lv_iconst (v := 0) hx hb dX8_join_24 (by decide) ?_
    refine va_iald hx hb hK hP 1 0 rfl rfl (hs_in (by decide)) dX8_join_25 ?_
    refine hs_topi (nI c0) e0 ?_
    refine lv_iconst (v := 2) hx hb dX8_join_26 (by decide) ?_
    refine lv_icmp_ne (tgt := 33) hx hb dX8_join_27 (by decide) (fun c_5 => ?_) (fun c_5 => ?_)
    · have nc_5 : ¬ c0 = 2 := fun hq9 => c_5 ((nI_eq (a := c0) (b := 2) (by omega) (by omega)).mpr hq9)
      refine lv_aload_n hx hb dX8_join_33 rfl (lv_at hl 0 rfl) ?_
      refine va_get (D := D) (ci := 7) (v := .ref mo_st) (C := RX8) (T := TX8) (N := 32) hx hb hts hiX8 hown hK hP 0 rfl rfl 0 (by decide) fl7 (fun _ h9 => h9) rfl dX8_join_34 ?_
      refine lv_iconst (v := 1) hx hb dX8_join_37 (by decide) ?_
      refine lv_iload_n hx hb dX8_join_38 rfl (lv_at hl 1 rfl) ?_
      refine lv_iadd hx hb dX8_join_39 ?_
      refine hs_topi (nI (1 + ji)) (nI_add (1) (ji)) ?_
      refine va_iald hx hb hK hP 1 0 rfl rfl (vp_in_nI (show (1 + ji) < 132 by omega) (by decide)) dX8_join_40 ?_
      refine lv_aload_n hx hb dX8_join_41 rfl (lv_at hl 0 rfl) ?_
      refine va_get (D := D) (ci := 7) (v := .ref mo_st) (C := RX8) (T := TX8) (N := 32) hx hb hts hiX8 hown hK hP 0 rfl rfl 0 (by decide) fl7 (fun _ h9 => h9) rfl dX8_join_42 ?_
      refine lv_iconst (v := 1) hx hb dX8_join_45 (by decide) ?_
      refine lv_iload_n hx hb dX8_join_46 rfl (lv_at hl 1 rfl) ?_
      refine lv_iadd hx hb dX8_join_47 ?_
      refine hs_topi (nI (1 + ji)) (nI_add (1) (ji)) ?_
      refine lv_iconst (v := 1) hx hb dX8_join_48 (by decide) ?_
      refine lv_iadd hx hb dX8_join_49 ?_
      refine hs_topi (nI ((1 + ji) + 1)) (nI_add ((1 + ji)) (1)) ?_
      refine va_iald hx hb hK hP 1 0 rfl rfl (vp_in_nI (show ((1 + ji) + 1) < 132 by omega) (by decide)) dX8_join_50 ?_
      refine lv_iadd hx hb dX8_join_51 ?_
      refine lv_istore_n (lv' := [(2, .int ((sf (nI (1 + ji)).toNatClampNeg) + (sf (nI ((1 + ji) + 1)).toNatClampNeg))), (0, .ref mo), (1, .int (nI ji))]) hx hb dX8_join_52 rfl hl (by decide) rfl (fun ls hl => ?_)
      refine lv_aload_n hx hb dX8_join_53 rfl (lv_at hl 1 rfl) ?_
      refine va_get (D := D) (ci := 7) (v := .ref mo_st) (C := RX8) (T := TX8) (N := 32) hx hb hts hiX8 hown hK hP 0 rfl rfl 0 (by decide) fl7 (fun _ h9 => h9) rfl dX8_join_54 ?_
      refine lv_iconst (v := 1) hx hb dX8_join_57 (by decide) ?_
      refine lv_iload_n hx hb dX8_join_58 rfl (lv_at hl 2 rfl) ?_
      refine lv_iadd hx hb dX8_join_59 ?_
      refine hs_topi (nI (1 + ji)) (nI_add (1) (ji)) ?_
      refine lv_iload_n hx hb dX8_join_60 rfl (lv_at hl 0 rfl) ?_
      refine lv_bipush (v := 9) hx hb dX8_join_61 (by decide) ?_
      refine lv_icmp_le (tgt := 71) hx hb dX8_join_63 (by decide) (fun c_6 => ?_) (fun c_6 => ?_)
      · refine lv_iload_n hx hb dX8_join_71 rfl (lv_at hl 0 rfl) ?_
        refine va_iast hx hb hK hP hD hS 1 0 rfl rfl (vp_in_nI (show (1 + ji) < 132 by omega) (by decide)) dX8_join_72 (fun H locs hP hD hS => ?_)
        have hP : va_P D vwCl [(mo, .inr (7, [.ref mo_st, .ref mo_at, .ref mo_isKept, .int (nI mo_pe), .int (nI mo_hm), .ref mo_draft, .int (nI mo_dp), .int (nI mo_dh), .int mo_toldLines, .int mo_highest, .ref mo_tape, .int (nI mo_tl), .int (nI mo_ps), .int (nI mo_fr), .int mo_sort, .int mo_value, .int (nI mo_ft), .int mo_wrongAt, .ref mo_row, .int mo_orderMany, .int (nI mo_fo), .int mo_lightest, .int mo_heaviest, .ref mo_before, .long mo_justSum, .long mo_toldSum, .long mo_allWays, .ref mo_lanes, .ref mo_sizes, .ref mo_cells, .int mo_torn, .ref mo_had])), (mo_st, .inl (k 0, 132, .inl (upd sf ((nI (1 + ji)).toNatClampNeg) ((sf (nI (1 + ji)).toNatClampNeg) + (sf (nI ((1 + ji) + 1)).toNatClampNeg)))))] H := hP
        have hD : va_D A [(mo, .inr (7, [.ref mo_st, .ref mo_at, .ref mo_isKept, .int (nI mo_pe), .int (nI mo_hm), .ref mo_draft, .int (nI mo_dp), .int (nI mo_dh), .int mo_toldLines, .int mo_highest, .ref mo_tape, .int (nI mo_tl), .int (nI mo_ps), .int (nI mo_fr), .int mo_sort, .int mo_value, .int (nI mo_ft), .int mo_wrongAt, .ref mo_row, .int mo_orderMany, .int (nI mo_fo), .int mo_lightest, .int mo_heaviest, .ref mo_before, .long mo_justSum, .long mo_toldSum, .long mo_allWays, .ref mo_lanes, .ref mo_sizes, .ref mo_cells, .int mo_torn, .ref mo_had])), (mo_st, .inl (k 0, 132, .inl (upd sf ((nI (1 + ji)).toNatClampNeg) ((sf (nI (1 + ji)).toNatClampNeg) + (sf (nI ((1 + ji) + 1)).toNatClampNeg)))))] := hD
        refine lv_aload_n hx hb dX8_join_73 rfl (lv_at hl 1 rfl) ?_
        refine va_get (D := D) (ci := 7) (v := .ref mo_st) (C := RX8) (T := TX8) (N := 32) hx hb hts hiX8 hown hK hP 0 rfl rfl 0 (by decide) fl7 (fun _ h9 => h9) rfl dX8_join_74 ?_
        refine lv_iconst (v := 0) hx hb dX8_join_77 (by decide) ?_
        refine lv_dup2_11 hx hb dX8_join_78 rfl rfl ?_
        refine va_iald hx hb hK hP 1 0 rfl rfl (hs_in (by decide)) dX8_join_79 ?_
        refine hs_topi (nI c0) ((hs_uc (q := 0) (by omega) (by omega)).trans e0) ?_
        refine lv_iconst (v := 1) hx hb dX8_join_80 (by decide) ?_
        refine lv_isub hx hb dX8_join_81 ?_
        refine hs_topi (nI (c0 - 1)) (pk_sub (a := c0) (b := 1) (by omega)) ?_
        refine va_iast hx hb hK hP hD hS 1 0 rfl rfl (hs_in (by decide)) dX8_join_82 (fun H locs hP hD hS => ?_)
        have hP : va_P D vwCl [(mo, .inr (7, [.ref mo_st, .ref mo_at, .ref mo_isKept, .int (nI mo_pe), .int (nI mo_hm), .ref mo_draft, .int (nI mo_dp), .int (nI mo_dh), .int mo_toldLines, .int mo_highest, .ref mo_tape, .int (nI mo_tl), .int (nI mo_ps), .int (nI mo_fr), .int mo_sort, .int mo_value, .int (nI mo_ft), .int mo_wrongAt, .ref mo_row, .int mo_orderMany, .int (nI mo_fo), .int mo_lightest, .int mo_heaviest, .ref mo_before, .long mo_justSum, .long mo_toldSum, .long mo_allWays, .ref mo_lanes, .ref mo_sizes, .ref mo_cells, .int mo_torn, .ref mo_had])), (mo_st, .inl (k 0, 132, .inl (upd (upd sf ((nI (1 + ji)).toNatClampNeg) ((sf (nI (1 + ji)).toNatClampNeg) + (sf (nI ((1 + ji) + 1)).toNatClampNeg))) 0 (nI (c0 - 1)))))] H := hP
        have hD : va_D A [(mo, .inr (7, [.ref mo_st, .ref mo_at, .ref mo_isKept, .int (nI mo_pe), .int (nI mo_hm), .ref mo_draft, .int (nI mo_dp), .int (nI mo_dh), .int mo_toldLines, .int mo_highest, .ref mo_tape, .int (nI mo_tl), .int (nI mo_ps), .int (nI mo_fr), .int mo_sort, .int mo_value, .int (nI mo_ft), .int mo_wrongAt, .ref mo_row, .int mo_orderMany, .int (nI mo_fo), .int mo_lightest, .int mo_heaviest, .ref mo_before, .long mo_justSum, .long mo_toldSum, .long mo_allWays, .ref mo_lanes, .ref mo_sizes, .ref mo_cells, .int mo_torn, .ref mo_had])), (mo_st, .inl (k 0, 132, .inl (upd (upd sf ((nI (1 + ji)).toNatClampNeg) ((sf (nI (1 + ji)).toNatClampNeg) + (sf (nI ((1 + ji) + 1)).toNatClampNeg))) 0 (nI (c0 - 1)))))] := hD
        refine lv_iload_n hx hb dX8_join_83 rfl (lv_at hl 2 rfl) ?_
        refine lv_iconst (v := 1) hx hb dX8_join_84 (by decide) ?_
        refine lv_iadd hx hb dX8_join_85 ?_
        refine hs_topi (nI (ji + 1)) (nI_add (ji) (1)) ?_
        refine lv_istore_n (lv' := [(3, .int (nI (ji + 1))), (2, .int ((sf (nI (1 + ji)).toNatClampNeg) + (sf (nI ((1 + ji) + 1)).toNatClampNeg))), (0, .ref mo), (1, .int (nI ji))]) hx hb dX8_join_86 rfl hl (by decide) rfl (fun ls hl => ?_)
        refine hs_while (σ := Nat × (Nat → Int32)) (fun x => x.1 ≤ c0 ∧ x.2 0 = nI (c0 - 1) ∧ ∀ q, ¬ q ≤ 8 → x.2 q = sf q) (fun x => c0 - x.1) (fun x => [(mo, .inr (7, [.ref mo_st, .ref mo_at, .ref mo_isKept, .int (nI mo_pe), .int (nI mo_hm), .ref mo_draft, .int (nI mo_dp), .int (nI mo_dh), .int mo_toldLines, .int mo_highest, .ref mo_tape, .int (nI mo_tl), .int (nI mo_ps), .int (nI mo_fr), .int mo_sort, .int mo_value, .int (nI mo_ft), .int mo_wrongAt, .ref mo_row, .int mo_orderMany, .int (nI mo_fo), .int mo_lightest, .int mo_heaviest, .ref mo_before, .long mo_justSum, .long mo_toldSum, .long mo_allWays, .ref mo_lanes, .ref mo_sizes, .ref mo_cells, .int mo_torn, .ref mo_had])), (mo_st, .inl (k 0, 132, .inl ((x.2))))]) (fun x => [(3, .int (nI (x.1))), (2, .int ((sf (nI (1 + ji)).toNatClampNeg) + (sf (nI ((1 + ji) + 1)).toNatClampNeg))), (0, .ref mo), (1, .int (nI ji))]) ?_ (ji + 1, upd (upd sf ((nI (1 + ji)).toNatClampNeg) ((sf (nI (1 + ji)).toNatClampNeg) + (sf (nI ((1 + ji) + 1)).toNatClampNeg))) 0 (nI (c0 - 1))) ?_ hP hD hS hl
        · intro x hI ih87 H locs ls hP hD hS hl
          obtain ⟨kx, g⟩ := x
          try dsimp only at hI
          have hP : va_P D vwCl [(mo, .inr (7, [.ref mo_st, .ref mo_at, .ref mo_isKept, .int (nI mo_pe), .int (nI mo_hm), .ref mo_draft, .int (nI mo_dp), .int (nI mo_dh), .int mo_toldLines, .int mo_highest, .ref mo_tape, .int (nI mo_tl), .int (nI mo_ps), .int (nI mo_fr), .int mo_sort, .int mo_value, .int (nI mo_ft), .int mo_wrongAt, .ref mo_row, .int mo_orderMany, .int (nI mo_fo), .int mo_lightest, .int mo_heaviest, .ref mo_before, .long mo_justSum, .long mo_toldSum, .long mo_allWays, .ref mo_lanes, .ref mo_sizes, .ref mo_cells, .int mo_torn, .ref mo_had])), (mo_st, .inl (k 0, 132, .inl (g)))] H := hP
          have hD : va_D A [(mo, .inr (7, [.ref mo_st, .ref mo_at, .ref mo_isKept, .int (nI mo_pe), .int (nI mo_hm), .ref mo_draft, .int (nI mo_dp), .int (nI mo_dh), .int mo_toldLines, .int mo_highest, .ref mo_tape, .int (nI mo_tl), .int (nI mo_ps), .int (nI mo_fr), .int mo_sort, .int mo_value, .int (nI mo_ft), .int mo_wrongAt, .ref mo_row, .int mo_orderMany, .int (nI mo_fo), .int mo_lightest, .int mo_heaviest, .ref mo_before, .long mo_justSum, .long mo_toldSum, .long mo_allWays, .ref mo_lanes, .ref mo_sizes, .ref mo_cells, .int mo_torn, .ref mo_had])), (mo_st, .inl (k 0, 132, .inl (g)))] := hD
          have hl : lv_has ls 4 [(3, .int (nI kx)), (2, .int ((sf (nI (1 + ji)).toNatClampNeg) + (sf (nI ((1 + ji) + 1)).toNatClampNeg))), (0, .ref mo), (1, .int (nI ji))] := hl
          refine lv_iload_n hx hb dX8_join_87 rfl (lv_at hl 0 rfl) ?_
          refine lv_aload_n hx hb dX8_join_88 rfl (lv_at hl 2 rfl) ?_
          refine va_get (D := D) (ci := 7) (v := .ref mo_st) (C := RX8) (T := TX8) (N := 32) hx hb hts hiX8 hown hK hP 0 rfl rfl 0 (by decide) fl7 (fun _ h9 => h9) rfl dX8_join_89 ?_
          refine lv_iconst (v := 0) hx hb dX8_join_92 (by decide) ?_
          refine va_iald hx hb hK hP 1 0 rfl rfl (hs_in (by decide)) dX8_join_93 ?_
          refine hs_topi (nI (c0 - 1)) hI.2.1 ?_
          refine lv_icmp_ge (tgt := 121) hx hb dX8_join_94 (by decide) (fun c_7 => ?_) (fun c_7 => ?_)
          · have nc_7 : (c0 - 1) ≤ kx := (nI_leI (a := (c0 - 1)) (b := kx) (by omega) (by omega)).mp c_7
            refine lv_aload_n hx hb dX8_join_121 rfl (lv_at hl 2 rfl) ?_
            refine va_get (D := D) (ci := 7) (v := .ref mo_st) (C := RX8) (T := TX8) (N := 32) hx hb hts hiX8 hown hK hP 0 rfl rfl 0 (by decide) fl7 (fun _ h9 => h9) rfl dX8_join_122 ?_
            refine lv_iconst (v := 0) hx hb dX8_join_125 (by decide) ?_
            refine va_iald hx hb hK hP 1 0 rfl rfl (hs_in (by decide)) dX8_join_126 ?_
            exact hs_iret hx hb hr hlocks hK hP hD hS g [0, 1] rfl (by decide) dX8_join_127 (⟨fun q hq => hI.2.2 q (by omega), c0 - 1, hI.2.1, by omega, by omega⟩)
          · have nc_7 : ¬ (c0 - 1) ≤ kx := fun hq9 => c_7 ((nI_leI (a := (c0 - 1)) (b := kx) (by omega) (by omega)).mpr hq9)
            refine lv_aload_n hx hb dX8_join_97 rfl (lv_at hl 2 rfl) ?_
            refine va_get (D := D) (ci := 7) (v := .ref mo_st) (C := RX8) (T := TX8) (N := 32) hx hb hts hiX8 hown hK hP 0 rfl rfl 0 (by decide) fl7 (fun _ h9 => h9) rfl dX8_join_98 ?_
            refine lv_iconst (v := 1) hx hb dX8_join_101 (by decide) ?_
            refine lv_iload_n hx hb dX8_join_102 rfl (lv_at hl 0 rfl) ?_
            refine lv_iadd hx hb dX8_join_103 ?_
            refine hs_topi (nI (1 + kx)) (nI_add (1) (kx)) ?_
            refine lv_aload_n hx hb dX8_join_104 rfl (lv_at hl 2 rfl) ?_
            refine va_get (D := D) (ci := 7) (v := .ref mo_st) (C := RX8) (T := TX8) (N := 32) hx hb hts hiX8 hown hK hP 0 rfl rfl 0 (by decide) fl7 (fun _ h9 => h9) rfl dX8_join_105 ?_
            refine lv_iconst (v := 1) hx hb dX8_join_108 (by decide) ?_
            refine lv_iload_n hx hb dX8_join_109 rfl (lv_at hl 0 rfl) ?_
            refine lv_iadd hx hb dX8_join_110 ?_
            refine hs_topi (nI (1 + kx)) (nI_add (1) (kx)) ?_
            refine lv_iconst (v := 1) hx hb dX8_join_111 (by decide) ?_
            refine lv_iadd hx hb dX8_join_112 ?_
            refine hs_topi (nI ((1 + kx) + 1)) (nI_add ((1 + kx)) (1)) ?_
            refine va_iald hx hb hK hP 1 0 rfl rfl (vp_in_nI (show ((1 + kx) + 1) < 132 by omega) (by decide)) dX8_join_113 ?_
            refine va_iast hx hb hK hP hD hS 1 0 rfl rfl (vp_in_nI (show (1 + kx) < 132 by omega) (by decide)) dX8_join_114 (fun H locs hP hD hS => ?_)
            have hP : va_P D vwCl [(mo, .inr (7, [.ref mo_st, .ref mo_at, .ref mo_isKept, .int (nI mo_pe), .int (nI mo_hm), .ref mo_draft, .int (nI mo_dp), .int (nI mo_dh), .int mo_toldLines, .int mo_highest, .ref mo_tape, .int (nI mo_tl), .int (nI mo_ps), .int (nI mo_fr), .int mo_sort, .int mo_value, .int (nI mo_ft), .int mo_wrongAt, .ref mo_row, .int mo_orderMany, .int (nI mo_fo), .int mo_lightest, .int mo_heaviest, .ref mo_before, .long mo_justSum, .long mo_toldSum, .long mo_allWays, .ref mo_lanes, .ref mo_sizes, .ref mo_cells, .int mo_torn, .ref mo_had])), (mo_st, .inl (k 0, 132, .inl (upd g ((nI (1 + kx)).toNatClampNeg) (g (nI ((1 + kx) + 1)).toNatClampNeg))))] H := hP
            have hD : va_D A [(mo, .inr (7, [.ref mo_st, .ref mo_at, .ref mo_isKept, .int (nI mo_pe), .int (nI mo_hm), .ref mo_draft, .int (nI mo_dp), .int (nI mo_dh), .int mo_toldLines, .int mo_highest, .ref mo_tape, .int (nI mo_tl), .int (nI mo_ps), .int (nI mo_fr), .int mo_sort, .int mo_value, .int (nI mo_ft), .int mo_wrongAt, .ref mo_row, .int mo_orderMany, .int (nI mo_fo), .int mo_lightest, .int mo_heaviest, .ref mo_before, .long mo_justSum, .long mo_toldSum, .long mo_allWays, .ref mo_lanes, .ref mo_sizes, .ref mo_cells, .int mo_torn, .ref mo_had])), (mo_st, .inl (k 0, 132, .inl (upd g ((nI (1 + kx)).toNatClampNeg) (g (nI ((1 + kx) + 1)).toNatClampNeg))))] := hD
            refine lv_iinc (v := nI (kx + 1)) (lv' := [(3, .int (nI (kx + 1))), (2, .int ((sf (nI (1 + ji)).toNatClampNeg) + (sf (nI ((1 + ji) + 1)).toNatClampNeg))), (0, .ref mo), (1, .int (nI ji))]) hx hb dX8_join_115 hl (k := 0) rfl (nI_add (kx) 1) (by decide) rfl (fun ls hl => ?_)
            refine lv_goto (tgt := 87) hx hb dX8_join_118 (by decide) ?_
            exact ih87 (kx + 1, upd g ((nI (1 + kx)).toNatClampNeg) (g (nI ((1 + kx) + 1)).toNatClampNeg)) (by (try dsimp only); exact ⟨by omega, (hs_uc (by omega) (by omega)).trans hI.2.1, fun q hq => by rw [hs_uc (by omega) (by omega)]; exact hI.2.2 q hq⟩) (by (try dsimp only); omega) _ _ _ hP hD hS (lv_sub hl [0, 1, 2, 3] rfl)
        · (try dsimp only); exact ⟨by omega, (by (try dsimp only); exact hs_uq rfl), fun q hq => by rw [hs_un (by omega), hs_uc (by omega) (by omega)]⟩
      · refine lv_bipush (v := 9) hx hb dX8_join_66 (by decide) ?_
        refine lv_goto (tgt := 72) hx hb dX8_join_68 (by decide) ?_
        refine va_iast hx hb hK hP hD hS 1 0 rfl rfl (vp_in_nI (show (1 + ji) < 132 by omega) (by decide)) dX8_join_72 (fun H locs hP hD hS => ?_)
        have hP : va_P D vwCl [(mo, .inr (7, [.ref mo_st, .ref mo_at, .ref mo_isKept, .int (nI mo_pe), .int (nI mo_hm), .ref mo_draft, .int (nI mo_dp), .int (nI mo_dh), .int mo_toldLines, .int mo_highest, .ref mo_tape, .int (nI mo_tl), .int (nI mo_ps), .int (nI mo_fr), .int mo_sort, .int mo_value, .int (nI mo_ft), .int mo_wrongAt, .ref mo_row, .int mo_orderMany, .int (nI mo_fo), .int mo_lightest, .int mo_heaviest, .ref mo_before, .long mo_justSum, .long mo_toldSum, .long mo_allWays, .ref mo_lanes, .ref mo_sizes, .ref mo_cells, .int mo_torn, .ref mo_had])), (mo_st, .inl (k 0, 132, .inl (upd sf ((nI (1 + ji)).toNatClampNeg) 9)))] H := hP
        have hD : va_D A [(mo, .inr (7, [.ref mo_st, .ref mo_at, .ref mo_isKept, .int (nI mo_pe), .int (nI mo_hm), .ref mo_draft, .int (nI mo_dp), .int (nI mo_dh), .int mo_toldLines, .int mo_highest, .ref mo_tape, .int (nI mo_tl), .int (nI mo_ps), .int (nI mo_fr), .int mo_sort, .int mo_value, .int (nI mo_ft), .int mo_wrongAt, .ref mo_row, .int mo_orderMany, .int (nI mo_fo), .int mo_lightest, .int mo_heaviest, .ref mo_before, .long mo_justSum, .long mo_toldSum, .long mo_allWays, .ref mo_lanes, .ref mo_sizes, .ref mo_cells, .int mo_torn, .ref mo_had])), (mo_st, .inl (k 0, 132, .inl (upd sf ((nI (1 + ji)).toNatClampNeg) 9)))] := hD
        refine lv_aload_n hx hb dX8_join_73 rfl (lv_at hl 1 rfl) ?_
        refine va_get (D := D) (ci := 7) (v := .ref mo_st) (C := RX8) (T := TX8) (N := 32) hx hb hts hiX8 hown hK hP 0 rfl rfl 0 (by decide) fl7 (fun _ h9 => h9) rfl dX8_join_74 ?_
        refine lv_iconst (v := 0) hx hb dX8_join_77 (by decide) ?_
        refine lv_dup2_11 hx hb dX8_join_78 rfl rfl ?_
        refine va_iald hx hb hK hP 1 0 rfl rfl (hs_in (by decide)) dX8_join_79 ?_
        refine hs_topi (nI c0) ((hs_uc (q := 0) (by omega) (by omega)).trans e0) ?_
        refine lv_iconst (v := 1) hx hb dX8_join_80 (by decide) ?_
        refine lv_isub hx hb dX8_join_81 ?_
        refine hs_topi (nI (c0 - 1)) (pk_sub (a := c0) (b := 1) (by omega)) ?_
        refine va_iast hx hb hK hP hD hS 1 0 rfl rfl (hs_in (by decide)) dX8_join_82 (fun H locs hP hD hS => ?_)
        have hP : va_P D vwCl [(mo, .inr (7, [.ref mo_st, .ref mo_at, .ref mo_isKept, .int (nI mo_pe), .int (nI mo_hm), .ref mo_draft, .int (nI mo_dp), .int (nI mo_dh), .int mo_toldLines, .int mo_highest, .ref mo_tape, .int (nI mo_tl), .int (nI mo_ps), .int (nI mo_fr), .int mo_sort, .int mo_value, .int (nI mo_ft), .int mo_wrongAt, .ref mo_row, .int mo_orderMany, .int (nI mo_fo), .int mo_lightest, .int mo_heaviest, .ref mo_before, .long mo_justSum, .long mo_toldSum, .long mo_allWays, .ref mo_lanes, .ref mo_sizes, .ref mo_cells, .int mo_torn, .ref mo_had])), (mo_st, .inl (k 0, 132, .inl (upd (upd sf ((nI (1 + ji)).toNatClampNeg) 9) 0 (nI (c0 - 1)))))] H := hP
        have hD : va_D A [(mo, .inr (7, [.ref mo_st, .ref mo_at, .ref mo_isKept, .int (nI mo_pe), .int (nI mo_hm), .ref mo_draft, .int (nI mo_dp), .int (nI mo_dh), .int mo_toldLines, .int mo_highest, .ref mo_tape, .int (nI mo_tl), .int (nI mo_ps), .int (nI mo_fr), .int mo_sort, .int mo_value, .int (nI mo_ft), .int mo_wrongAt, .ref mo_row, .int mo_orderMany, .int (nI mo_fo), .int mo_lightest, .int mo_heaviest, .ref mo_before, .long mo_justSum, .long mo_toldSum, .long mo_allWays, .ref mo_lanes, .ref mo_sizes, .ref mo_cells, .int mo_torn, .ref mo_had])), (mo_st, .inl (k 0, 132, .inl (upd (upd sf ((nI (1 + ji)).toNatClampNeg) 9) 0 (nI (c0 - 1)))))] := hD
        refine lv_iload_n hx hb dX8_join_83 rfl (lv_at hl 2 rfl) ?_
        refine lv_iconst (v := 1) hx hb dX8_join_84 (by decide) ?_
        refine lv_iadd hx hb dX8_join_85 ?_
        refine hs_topi (nI (ji + 1)) (nI_add (ji) (1)) ?_
        refine lv_istore_n (lv' := [(3, .int (nI (ji + 1))), (2, .int ((sf (nI (1 + ji)).toNatClampNeg) + (sf (nI ((1 + ji) + 1)).toNatClampNeg))), (0, .ref mo), (1, .int (nI ji))]) hx hb dX8_join_86 rfl hl (by decide) rfl (fun ls hl => ?_)
        refine hs_while (σ := Nat × (Nat → Int32)) (fun x => x.1 ≤ c0 ∧ x.2 0 = nI (c0 - 1) ∧ ∀ q, ¬ q ≤ 8 → x.2 q = sf q) (fun x => c0 - x.1) (fun x => [(mo, .inr (7, [.ref mo_st, .ref mo_at, .ref mo_isKept, .int (nI mo_pe), .int (nI mo_hm), .ref mo_draft, .int (nI mo_dp), .int (nI mo_dh), .int mo_toldLines, .int mo_highest, .ref mo_tape, .int (nI mo_tl), .int (nI mo_ps), .int (nI mo_fr), .int mo_sort, .int mo_value, .int (nI mo_ft), .int mo_wrongAt, .ref mo_row, .int mo_orderMany, .int (nI mo_fo), .int mo_lightest, .int mo_heaviest, .ref mo_before, .long mo_justSum, .long mo_toldSum, .long mo_allWays, .ref mo_lanes, .ref mo_sizes, .ref mo_cells, .int mo_torn, .ref mo_had])), (mo_st, .inl (k 0, 132, .inl ((x.2))))]) (fun x => [(3, .int (nI (x.1))), (2, .int ((sf (nI (1 + ji)).toNatClampNeg) + (sf (nI ((1 + ji) + 1)).toNatClampNeg))), (0, .ref mo), (1, .int (nI ji))]) ?_ (ji + 1, upd (upd sf ((nI (1 + ji)).toNatClampNeg) 9) 0 (nI (c0 - 1))) ?_ hP hD hS hl
        · intro x hI ih87 H locs ls hP hD hS hl
          obtain ⟨kx, g⟩ := x
          try dsimp only at hI
          have hP : va_P D vwCl [(mo, .inr (7, [.ref mo_st, .ref mo_at, .ref mo_isKept, .int (nI mo_pe), .int (nI mo_hm), .ref mo_draft, .int (nI mo_dp), .int (nI mo_dh), .int mo_toldLines, .int mo_highest, .ref mo_tape, .int (nI mo_tl), .int (nI mo_ps), .int (nI mo_fr), .int mo_sort, .int mo_value, .int (nI mo_ft), .int mo_wrongAt, .ref mo_row, .int mo_orderMany, .int (nI mo_fo), .int mo_lightest, .int mo_heaviest, .ref mo_before, .long mo_justSum, .long mo_toldSum, .long mo_allWays, .ref mo_lanes, .ref mo_sizes, .ref mo_cells, .int mo_torn, .ref mo_had])), (mo_st, .inl (k 0, 132, .inl (g)))] H := hP
          have hD : va_D A [(mo, .inr (7, [.ref mo_st, .ref mo_at, .ref mo_isKept, .int (nI mo_pe), .int (nI mo_hm), .ref mo_draft, .int (nI mo_dp), .int (nI mo_dh), .int mo_toldLines, .int mo_highest, .ref mo_tape, .int (nI mo_tl), .int (nI mo_ps), .int (nI mo_fr), .int mo_sort, .int mo_value, .int (nI mo_ft), .int mo_wrongAt, .ref mo_row, .int mo_orderMany, .int (nI mo_fo), .int mo_lightest, .int mo_heaviest, .ref mo_before, .long mo_justSum, .long mo_toldSum, .long mo_allWays, .ref mo_lanes, .ref mo_sizes, .ref mo_cells, .int mo_torn, .ref mo_had])), (mo_st, .inl (k 0, 132, .inl (g)))] := hD
          have hl : lv_has ls 4 [(3, .int (nI kx)), (2, .int ((sf (nI (1 + ji)).toNatClampNeg) + (sf (nI ((1 + ji) + 1)).toNatClampNeg))), (0, .ref mo), (1, .int (nI ji))] := hl
          refine lv_iload_n hx hb dX8_join_87 rfl (lv_at hl 0 rfl) ?_
          refine lv_aload_n hx hb dX8_join_88 rfl (lv_at hl 2 rfl) ?_
          refine va_get (D := D) (ci := 7) (v := .ref mo_st) (C := RX8) (T := TX8) (N := 32) hx hb hts hiX8 hown hK hP 0 rfl rfl 0 (by decide) fl7 (fun _ h9 => h9) rfl dX8_join_89 ?_
          refine lv_iconst (v := 0) hx hb dX8_join_92 (by decide) ?_
          refine va_iald hx hb hK hP 1 0 rfl rfl (hs_in (by decide)) dX8_join_93 ?_
          refine hs_topi (nI (c0 - 1)) hI.2.1 ?_
          refine lv_icmp_ge (tgt := 121) hx hb dX8_join_94 (by decide) (fun c_8 => ?_) (fun c_8 => ?_)
          · have nc_8 : (c0 - 1) ≤ kx := (nI_leI (a := (c0 - 1)) (b := kx) (by omega) (by omega)).mp c_8
            refine lv_aload_n hx hb dX8_join_121 rfl (lv_at hl 2 rfl) ?_
            refine va_get (D := D) (ci := 7) (v := .ref mo_st) (C := RX8) (T := TX8) (N := 32) hx hb hts hiX8 hown hK hP 0 rfl rfl 0 (by decide) fl7 (fun _ h9 => h9) rfl dX8_join_122 ?_
            refine lv_iconst (v := 0) hx hb dX8_join_125 (by decide) ?_
            refine va_iald hx hb hK hP 1 0 rfl rfl (hs_in (by decide)) dX8_join_126 ?_
            exact hs_iret hx hb hr hlocks hK hP hD hS g [0, 1] rfl (by decide) dX8_join_127 (⟨fun q hq => hI.2.2 q (by omega), c0 - 1, hI.2.1, by omega, by omega⟩)
          · have nc_8 : ¬ (c0 - 1) ≤ kx := fun hq9 => c_8 ((nI_leI (a := (c0 - 1)) (b := kx) (by omega) (by omega)).mpr hq9)
            refine lv_aload_n hx hb dX8_join_97 rfl (lv_at hl 2 rfl) ?_
            refine va_get (D := D) (ci := 7) (v := .ref mo_st) (C := RX8) (T := TX8) (N := 32) hx hb hts hiX8 hown hK hP 0 rfl rfl 0 (by decide) fl7 (fun _ h9 => h9) rfl dX8_join_98 ?_
            refine lv_iconst (v := 1) hx hb dX8_join_101 (by decide) ?_
            refine lv_iload_n hx hb dX8_join_102 rfl (lv_at hl 0 rfl) ?_
            refine lv_iadd hx hb dX8_join_103 ?_
            refine hs_topi (nI (1 + kx)) (nI_add (1) (kx)) ?_
            refine lv_aload_n hx hb dX8_join_104 rfl (lv_at hl 2 rfl) ?_
            refine va_get (D := D) (ci := 7) (v := .ref mo_st) (C := RX8) (T := TX8) (N := 32) hx hb hts hiX8 hown hK hP 0 rfl rfl 0 (by decide) fl7 (fun _ h9 => h9) rfl dX8_join_105 ?_
            refine lv_iconst (v := 1) hx hb dX8_join_108 (by decide) ?_
            refine lv_iload_n hx hb dX8_join_109 rfl (lv_at hl 0 rfl) ?_
            refine lv_iadd hx hb dX8_join_110 ?_
            refine hs_topi (nI (1 + kx)) (nI_add (1) (kx)) ?_
            refine lv_iconst (v := 1) hx hb dX8_join_111 (by decide) ?_
            refine lv_iadd hx hb dX8_join_112 ?_
            refine hs_topi (nI ((1 + kx) + 1)) (nI_add ((1 + kx)) (1)) ?_
            refine va_iald hx hb hK hP 1 0 rfl rfl (vp_in_nI (show ((1 + kx) + 1) < 132 by omega) (by decide)) dX8_join_113 ?_
            refine va_iast hx hb hK hP hD hS 1 0 rfl rfl (vp_in_nI (show (1 + kx) < 132 by omega) (by decide)) dX8_join_114 (fun H locs hP hD hS => ?_)
            have hP : va_P D vwCl [(mo, .inr (7, [.ref mo_st, .ref mo_at, .ref mo_isKept, .int (nI mo_pe), .int (nI mo_hm), .ref mo_draft, .int (nI mo_dp), .int (nI mo_dh), .int mo_toldLines, .int mo_highest, .ref mo_tape, .int (nI mo_tl), .int (nI mo_ps), .int (nI mo_fr), .int mo_sort, .int mo_value, .int (nI mo_ft), .int mo_wrongAt, .ref mo_row, .int mo_orderMany, .int (nI mo_fo), .int mo_lightest, .int mo_heaviest, .ref mo_before, .long mo_justSum, .long mo_toldSum, .long mo_allWays, .ref mo_lanes, .ref mo_sizes, .ref mo_cells, .int mo_torn, .ref mo_had])), (mo_st, .inl (k 0, 132, .inl (upd g ((nI (1 + kx)).toNatClampNeg) (g (nI ((1 + kx) + 1)).toNatClampNeg))))] H := hP
            have hD : va_D A [(mo, .inr (7, [.ref mo_st, .ref mo_at, .ref mo_isKept, .int (nI mo_pe), .int (nI mo_hm), .ref mo_draft, .int (nI mo_dp), .int (nI mo_dh), .int mo_toldLines, .int mo_highest, .ref mo_tape, .int (nI mo_tl), .int (nI mo_ps), .int (nI mo_fr), .int mo_sort, .int mo_value, .int (nI mo_ft), .int mo_wrongAt, .ref mo_row, .int mo_orderMany, .int (nI mo_fo), .int mo_lightest, .int mo_heaviest, .ref mo_before, .long mo_justSum, .long mo_toldSum, .long mo_allWays, .ref mo_lanes, .ref mo_sizes, .ref mo_cells, .int mo_torn, .ref mo_had])), (mo_st, .inl (k 0, 132, .inl (upd g ((nI (1 + kx)).toNatClampNeg) (g (nI ((1 + kx) + 1)).toNatClampNeg))))] := hD
            refine lv_iinc (v := nI (kx + 1)) (lv' := [(3, .int (nI (kx + 1))), (2, .int ((sf (nI (1 + ji)).toNatClampNeg) + (sf (nI ((1 + ji) + 1)).toNatClampNeg))), (0, .ref mo), (1, .int (nI ji))]) hx hb dX8_join_115 hl (k := 0) rfl (nI_add (kx) 1) (by decide) rfl (fun ls hl => ?_)
            refine lv_goto (tgt := 87) hx hb dX8_join_118 (by decide) ?_
            exact ih87 (kx + 1, upd g ((nI (1 + kx)).toNatClampNeg) (g (nI ((1 + kx) + 1)).toNatClampNeg)) (by (try dsimp only); exact ⟨by omega, (hs_uc (by omega) (by omega)).trans hI.2.1, fun q hq => by rw [hs_uc (by omega) (by omega)]; exact hI.2.2 q hq⟩) (by (try dsimp only); omega) _ _ _ hP hD hS (lv_sub hl [0, 1, 2, 3] rfl)
        · (try dsimp only); exact ⟨by omega, (by (try dsimp only); exact hs_uq rfl), fun q hq => by rw [hs_un (by omega), hs_uc (by omega) (by omega)]⟩
    · have nc_5 : c0 = 2 := (nI_eq (a := c0) (b := 2) (by omega) (by omega)).mp c_5
      refine lv_bipush (v := (-2)) hx hb dX8_join_30 (by decide) ?_
      exact hs_iret hx hb hr hlocks hK hP hD hS sf [0, 1] rfl (by decide) dX8_join_32 (⟨fun _ _ => rfl, c0, e0, by omega, by omega⟩)
  · refine lv_iconst (v := (-1)) hx hb dX8_join_18 (by decide) ?_
    exact hs_iret hx hb hr hlocks hK hP hD hS sf [0, 1] rfl (by decide) dX8_join_19 (⟨fun _ _ => rfl, c0, e0, by omega, by omega⟩)

set_option maxHeartbeats 4000000 in
set_option maxRecDepth 100000 in
theorem gq_appeal (l : Launch) (D : va_G) (k : Nat → ClassId) (sz : Nat) (mo : Nat) (mo_st : Nat) (mo_at : Nat) (mo_isKept : Nat) (mo_pe : Nat) (mo_hm : Nat) (mo_draft : Nat) (mo_dp : Nat) (mo_dh : Nat) (mo_toldLines : Int32) (mo_highest : Int32) (mo_tape : Nat) (mo_tl : Nat) (mo_ps : Nat) (mo_fr : Nat) (mo_sort : Int32) (mo_value : Int32) (mo_ft : Nat) (mo_wrongAt : Int32) (mo_row : Nat) (mo_orderMany : Int32) (mo_fo : Nat) (mo_lightest : Int32) (mo_heaviest : Int32) (mo_before : Nat) (mo_justSum : Int64) (mo_toldSum : Int64) (mo_allWays : Int64) (mo_lanes : Nat) (mo_sizes : Nat) (mo_cells : Nat) (mo_torn : Int32) (mo_had : Nat) (sf : Nat → Int32) (c0 : Nat) (c3 : Nat) (c4 : Nat) (fi : Nat) (e0 : sf 0 = nI c0) (h0 : c0 ≤ 8) (h02 : 2 ≤ c0) (e3 : sf 16 = nI c3) (h3 : c3 ≤ 8) (e4 : sf 25 = nI c4) (h4 : c4 ≤ 6) (hpe : mo_pe ≤ 4) (hm2 : 2 ≤ mo_hm) (hm5 : mo_hm ≤ 5) (ef : sf 14 = nI fi) (hfi : fi ≤ 99) (hsaw : ∀ i, i < c4 → vp_in (sf (26 + 3 * i)) 4) : MI l yX8_appeal wsX8_appeal ({ frames := 0, cells := 0, slots := 0, locals := 0 }) D k [.ref mo] [(mo, .inr (7, [.ref mo_st, .ref mo_at, .ref mo_isKept, .int (nI mo_pe), .int (nI mo_hm), .ref mo_draft, .int (nI mo_dp), .int (nI mo_dh), .int mo_toldLines, .int mo_highest, .ref mo_tape, .int (nI mo_tl), .int (nI mo_ps), .int (nI mo_fr), .int mo_sort, .int mo_value, .int (nI mo_ft), .int mo_wrongAt, .ref mo_row, .int mo_orderMany, .int (nI mo_fo), .int mo_lightest, .int mo_heaviest, .ref mo_before, .long mo_justSum, .long mo_toldSum, .long mo_allWays, .ref mo_lanes, .ref mo_sizes, .ref mo_cells, .int mo_torn, .ref mo_had])), (mo_st, .inl (k 0, 132, .inl (sf)))] sz (fun (r : Int32) (u : Nat → Int32) => (∀ q, ¬ (14 ≤ q ∧ q ≤ 15) → u q = sf q) ∧ ∃ f : Nat, f ≤ 99 ∧ u 14 = nI f) (fun (u : Nat → Int32) => [(mo, .inr (7, [.ref mo_st, .ref mo_at, .ref mo_isKept, .int (nI mo_pe), .int (nI mo_hm), .ref mo_draft, .int (nI mo_dp), .int (nI mo_dh), .int mo_toldLines, .int mo_highest, .ref mo_tape, .int (nI mo_tl), .int (nI mo_ps), .int (nI mo_fr), .int mo_sort, .int mo_value, .int (nI mo_ft), .int mo_wrongAt, .ref mo_row, .int mo_orderMany, .int (nI mo_fo), .int mo_lightest, .int mo_heaviest, .ref mo_before, .long mo_justSum, .long mo_toldSum, .long mo_allWays, .ref mo_lanes, .ref mo_sizes, .ref mo_cells, .int mo_torn, .ref mo_had])), (mo_st, .inl (k 0, 132, .inl (u)))]) := by
  refine Met.ofW (cc := cX8_appeal) (maxL := 1) (ret := (some .int)) (by decide) rfl ?_
  intro p e s m args below meth c s₁ B hml hv
  obtain ⟨rfl, hsz, hP, hK, hD0, hN⟩ := hv
  have hx := B.exec
  have hb := B.bytes
  have hr := B.returns
  have hlocks := B.notSynchronized
  have hts := atoms_spec (ws := wsX8_appeal) B.pre
  have hown : s.vm.findClass RX8 = some m.cls := findClass_of_methodNamed B.named
  have hiX8 : ∀ w ∈ u_ws RX8 TX8 32, w ∈ wsX8_appeal := by decide +kernel
  have fl7 := hts (.fieldLink RX8 7 "HalfScalesModel" "st" "[I") (by decide +kernel)
  subst hsz
  have hD := hD0.self (sz := s.heap.size)
  generalize hAe : va_A [(mo, .inr (7, [.ref mo_st, .ref mo_at, .ref mo_isKept, .int (nI mo_pe), .int (nI mo_hm), .ref mo_draft, .int (nI mo_dp), .int (nI mo_dh), .int mo_toldLines, .int mo_highest, .ref mo_tape, .int (nI mo_tl), .int (nI mo_ps), .int (nI mo_fr), .int mo_sort, .int mo_value, .int (nI mo_ft), .int mo_wrongAt, .ref mo_row, .int mo_orderMany, .int (nI mo_fo), .int mo_lightest, .int mo_heaviest, .ref mo_before, .long mo_justSum, .long mo_toldSum, .long mo_allWays, .ref mo_lanes, .ref mo_sizes, .ref mo_cells, .int mo_torn, .ref mo_had])), (mo_st, .inl (k 0, 132, .inl (sf)))] s.heap.size = A at hD ⊢
  have hA : ∀ q : Nat, s.heap.size ≤ q → A q := fun q h => by rw [← hAe]; exact Or.inr h
  have hS : va_S A s.heap s.heap [] := va_S.rf
  have hl := lv_entry ([.ref mo]) (n := 1) (Nat.le_of_ble_eq_true rfl)
  rw [lg_entry_eq]
  generalize (lg_sl ([.ref mo]) ++ List.replicate (1 - (lg_sl ([.ref mo])).length) Slot.unset).toArray = ls at hl ⊢
  have hl : lv_has ls 1 [(0, .ref mo)] := hl
  have hP : va_P D vwCl [(mo, .inr (7, [.ref mo_st, .ref mo_at, .ref mo_isKept, .int (nI mo_pe), .int (nI mo_hm), .ref mo_draft, .int (nI mo_dp), .int (nI mo_dh), .int mo_toldLines, .int mo_highest, .ref mo_tape, .int (nI mo_tl), .int (nI mo_ps), .int (nI mo_fr), .int mo_sort, .int mo_value, .int (nI mo_ft), .int mo_wrongAt, .ref mo_row, .int mo_orderMany, .int (nI mo_fo), .int mo_lightest, .int mo_heaviest, .ref mo_before, .long mo_justSum, .long mo_toldSum, .long mo_allWays, .ref mo_lanes, .ref mo_sizes, .ref mo_cells, .int mo_torn, .ref mo_had])), (mo_st, .inl (k 0, 132, .inl (sf)))] s.heap := hP
  refine lv_aload_n hx hb dX8_appeal_0 rfl (lv_at hl 0 rfl) ?_
  refine va_get (D := D) (ci := 7) (v := .ref mo_st) (C := RX8) (T := TX8) (N := 32) hx hb hts hiX8 hown hK hP 0 rfl rfl 0 (by decide) fl7 (fun _ h9 => h9) rfl dX8_appeal_1 ?_
  refine lv_bipush (v := 14) hx hb dX8_appeal_4 (by decide) ?_
  refine va_iald hx hb hK hP 1 0 rfl rfl (hs_in (by decide)) dX8_appeal_6 ?_
  refine hs_topi (nI fi) ef ?_
  refine lv_iconst (v := 2) hx hb dX8_appeal_7 (by decide) ?_
  refine lv_icmp_ge (tgt := 14) hx hb dX8_appeal_8 (by decide) (fun c_1 => ?_) (fun c_1 => ?_)
  · have nc_1 : 2 ≤ fi := (nI_leI (a := 2) (b := fi) (by omega) (by omega)).mp c_1
    refine lv_aload_n hx hb dX8_appeal_14 rfl (lv_at hl 0 rfl) ?_
    refine va_get (D := D) (ci := 7) (v := .ref mo_st) (C := RX8) (T := TX8) (N := 32) hx hb hts hiX8 hown hK hP 0 rfl rfl 0 (by decide) fl7 (fun _ h9 => h9) rfl dX8_appeal_15 ?_
    refine lv_bipush (v := 14) hx hb dX8_appeal_18 (by decide) ?_
    refine lv_dup2_11 hx hb dX8_appeal_20 rfl rfl ?_
    refine va_iald hx hb hK hP 1 0 rfl rfl (hs_in (by decide)) dX8_appeal_21 ?_
    refine hs_topi (nI fi) ef ?_
    refine lv_aload_n hx hb dX8_appeal_22 rfl (lv_at hl 0 rfl) ?_
    refine va_get (D := D) (ci := 7) (v := .ref mo_st) (C := RX8) (T := TX8) (N := 32) hx hb hts hiX8 hown hK hP 0 rfl rfl 0 (by decide) fl7 (fun _ h9 => h9) rfl dX8_appeal_23 ?_
    refine lv_bipush (v := 14) hx hb dX8_appeal_26 (by decide) ?_
    refine va_iald hx hb hK hP 1 0 rfl rfl (hs_in (by decide)) dX8_appeal_28 ?_
    refine hs_topi (nI fi) ef ?_
    refine lv_iconst (v := 2) hx hb dX8_appeal_29 (by decide) ?_
    refine lv_idiv hx hb dX8_appeal_30 (by decide) ?_
    refine hs_topi (nI (fi / 2)) (show nI fi / 2 = nI (fi / 2) from pk_div (d := 2) (by omega) (by decide) (by decide)) ?_
    refine lv_isub hx hb dX8_appeal_31 ?_
    refine hs_topi (nI (fi - (fi / 2))) (pk_sub (a := fi) (b := (fi / 2)) (by omega)) ?_
    refine va_iast hx hb hK hP hD hS 1 0 rfl rfl (hs_in (by decide)) dX8_appeal_32 (fun H locs hP hD hS => ?_)
    have hP : va_P D vwCl [(mo, .inr (7, [.ref mo_st, .ref mo_at, .ref mo_isKept, .int (nI mo_pe), .int (nI mo_hm), .ref mo_draft, .int (nI mo_dp), .int (nI mo_dh), .int mo_toldLines, .int mo_highest, .ref mo_tape, .int (nI mo_tl), .int (nI mo_ps), .int (nI mo_fr), .int mo_sort, .int mo_value, .int (nI mo_ft), .int mo_wrongAt, .ref mo_row, .int mo_orderMany, .int (nI mo_fo), .int mo_lightest, .int mo_heaviest, .ref mo_before, .long mo_justSum, .long mo_toldSum, .long mo_allWays, .ref mo_lanes, .ref mo_sizes, .ref mo_cells, .int mo_torn, .ref mo_had])), (mo_st, .inl (k 0, 132, .inl (upd sf 14 (nI (fi - (fi / 2))))))] H := hP
    have hD : va_D A [(mo, .inr (7, [.ref mo_st, .ref mo_at, .ref mo_isKept, .int (nI mo_pe), .int (nI mo_hm), .ref mo_draft, .int (nI mo_dp), .int (nI mo_dh), .int mo_toldLines, .int mo_highest, .ref mo_tape, .int (nI mo_tl), .int (nI mo_ps), .int (nI mo_fr), .int mo_sort, .int mo_value, .int (nI mo_ft), .int mo_wrongAt, .ref mo_row, .int mo_orderMany, .int (nI mo_fo), .int mo_lightest, .int mo_heaviest, .ref mo_before, .long mo_justSum, .long mo_toldSum, .long mo_allWays, .ref mo_lanes, .ref mo_sizes, .ref mo_cells, .int mo_torn, .ref mo_had])), (mo_st, .inl (k 0, 132, .inl (upd sf 14 (nI (fi - (fi / 2))))))] := hD
    refine lv_aload_n hx hb dX8_appeal_33 rfl (lv_at hl 0 rfl) ?_
    refine va_get (D := D) (ci := 7) (v := .ref mo_st) (C := RX8) (T := TX8) (N := 32) hx hb hts hiX8 hown hK hP 0 rfl rfl 0 (by decide) fl7 (fun _ h9 => h9) rfl dX8_appeal_34 ?_
    refine lv_bipush (v := 15) hx hb dX8_appeal_37 (by decide) ?_
    refine lv_dup2_11 hx hb dX8_appeal_39 rfl rfl ?_
    refine va_iald hx hb hK hP 1 0 rfl rfl (hs_in (by decide)) dX8_appeal_40 ?_
    refine lv_iconst (v := 1) hx hb dX8_appeal_41 (by decide) ?_
    refine lv_iadd hx hb dX8_appeal_42 ?_
    refine va_iast hx hb hK hP hD hS 1 0 rfl rfl (hs_in (by decide)) dX8_appeal_43 (fun H locs hP hD hS => ?_)
    have hP : va_P D vwCl [(mo, .inr (7, [.ref mo_st, .ref mo_at, .ref mo_isKept, .int (nI mo_pe), .int (nI mo_hm), .ref mo_draft, .int (nI mo_dp), .int (nI mo_dh), .int mo_toldLines, .int mo_highest, .ref mo_tape, .int (nI mo_tl), .int (nI mo_ps), .int (nI mo_fr), .int mo_sort, .int mo_value, .int (nI mo_ft), .int mo_wrongAt, .ref mo_row, .int mo_orderMany, .int (nI mo_fo), .int mo_lightest, .int mo_heaviest, .ref mo_before, .long mo_justSum, .long mo_toldSum, .long mo_allWays, .ref mo_lanes, .ref mo_sizes, .ref mo_cells, .int mo_torn, .ref mo_had])), (mo_st, .inl (k 0, 132, .inl (upd (upd sf 14 (nI (fi - (fi / 2)))) 15 (((upd sf 14 (nI (fi - (fi / 2)))) ((15 : Int32).toNatClampNeg)) + 1))))] H := hP
    have hD : va_D A [(mo, .inr (7, [.ref mo_st, .ref mo_at, .ref mo_isKept, .int (nI mo_pe), .int (nI mo_hm), .ref mo_draft, .int (nI mo_dp), .int (nI mo_dh), .int mo_toldLines, .int mo_highest, .ref mo_tape, .int (nI mo_tl), .int (nI mo_ps), .int (nI mo_fr), .int mo_sort, .int mo_value, .int (nI mo_ft), .int mo_wrongAt, .ref mo_row, .int mo_orderMany, .int (nI mo_fo), .int mo_lightest, .int mo_heaviest, .ref mo_before, .long mo_justSum, .long mo_toldSum, .long mo_allWays, .ref mo_lanes, .ref mo_sizes, .ref mo_cells, .int mo_torn, .ref mo_had])), (mo_st, .inl (k 0, 132, .inl (upd (upd sf 14 (nI (fi - (fi / 2)))) 15 (((upd sf 14 (nI (fi - (fi / 2)))) ((15 : Int32).toNatClampNeg)) + 1))))] := hD
    refine lv_aload_n hx hb dX8_appeal_44 rfl (lv_at hl 0 rfl) ?_
    refine va_get (D := D) (ci := 7) (v := .ref mo_st) (C := RX8) (T := TX8) (N := 32) hx hb hts hiX8 hown hK hP 0 rfl rfl 0 (by decide) fl7 (fun _ h9 => h9) rfl dX8_appeal_45 ?_
    refine lv_bipush (v := 14) hx hb dX8_appeal_48 (by decide) ?_
    refine va_iald hx hb hK hP 1 0 rfl rfl (hs_in (by decide)) dX8_appeal_50 ?_
    refine hs_topi (nI (fi - (fi / 2))) (by first | rfl | decide +kernel) ?_
    exact hs_iret hx hb hr hlocks hK hP hD hS (upd (upd sf 14 (nI (fi - (fi / 2)))) 15 (((upd sf 14 (nI (fi - (fi / 2)))) ((15 : Int32).toNatClampNeg)) + 1)) [0, 1] rfl (by decide) dX8_appeal_51 (⟨fun q hq => by (try dsimp only); rw [hs_un (by omega), hs_un (by omega)], fi - fi / 2, by omega, (hs_un (by decide)).trans ((by (try dsimp only); exact hs_uq rfl))⟩)
  · have nc_1 : ¬ 2 ≤ fi := fun hq9 => c_1 ((nI_leI (a := 2) (b := fi) (by omega) (by omega)).mpr hq9)
    refine lv_bipush (v := (-2)) hx hb dX8_appeal_11 (by decide) ?_
    exact hs_iret hx hb hr hlocks hK hP hD hS sf [0, 1] rfl (by decide) dX8_appeal_13 (⟨fun _ _ => rfl, fi, hfi, ef⟩)

set_option maxHeartbeats 4000000 in
set_option maxRecDepth 100000 in
theorem gq_lighter (l : Launch) (D : va_G) (k : Nat → ClassId) (sz : Nat) (mo : Nat) (mo_st : Nat) (mo_at : Nat) (mo_isKept : Nat) (mo_pe : Nat) (mo_hm : Nat) (mo_draft : Nat) (mo_dp : Nat) (mo_dh : Nat) (mo_toldLines : Int32) (mo_highest : Int32) (mo_tape : Nat) (mo_tl : Nat) (mo_ps : Nat) (mo_fr : Nat) (mo_sort : Int32) (mo_value : Int32) (mo_ft : Nat) (mo_wrongAt : Int32) (mo_row : Nat) (mo_orderMany : Int32) (mo_fo : Nat) (mo_lightest : Int32) (mo_heaviest : Int32) (mo_before : Nat) (mo_justSum : Int64) (mo_toldSum : Int64) (mo_allWays : Int64) (mo_lanes : Nat) (mo_sizes : Nat) (mo_cells : Nat) (mo_torn : Int32) (mo_had : Nat) (sf : Nat → Int32) (c0 : Nat) (c3 : Nat) (c4 : Nat) (fi : Nat) (af : Nat → Int32) (rf : Nat → Int32) (bf : Nat → Int32) (a : Int32) (b : Int32) (e0 : sf 0 = nI c0) (h0 : c0 ≤ 8) (h02 : 2 ≤ c0) (e3 : sf 16 = nI c3) (h3 : c3 ≤ 8) (e4 : sf 25 = nI c4) (h4 : c4 ≤ 6) (hpe : mo_pe ≤ 4) (hm2 : 2 ≤ mo_hm) (hm5 : mo_hm ≤ 5) (ef : sf 14 = nI fi) (hfi : fi ≤ 99) (hsaw : ∀ i, i < c4 → vp_in (sf (26 + 3 * i)) 4) : MI l yX8_lighter wsX8_lighter ({ frames := 3, cells := 0, slots := 0, locals := 71 }) D k [.ref mo, .int a, .int b] [(mo, .inr (7, [.ref mo_st, .ref mo_at, .ref mo_isKept, .int (nI mo_pe), .int (nI mo_hm), .ref mo_draft, .int (nI mo_dp), .int (nI mo_dh), .int mo_toldLines, .int mo_highest, .ref mo_tape, .int (nI mo_tl), .int (nI mo_ps), .int (nI mo_fr), .int mo_sort, .int mo_value, .int (nI mo_ft), .int mo_wrongAt, .ref mo_row, .int mo_orderMany, .int (nI mo_fo), .int mo_lightest, .int mo_heaviest, .ref mo_before, .long mo_justSum, .long mo_toldSum, .long mo_allWays, .ref mo_lanes, .ref mo_sizes, .ref mo_cells, .int mo_torn, .ref mo_had])), (mo_st, .inl (k 0, 132, .inl (sf))), (mo_at, .inl (k 0, 44, .inl (af))), (mo_row, .inl (k 0, 5, .inl (rf))), (mo_before, .inl (k 0, 25, .inl (bf)))] sz (fun (r : Int32) (u : (Nat → Int32) × Nat × (Nat → Int32) × (Int32 × Nat × Int32 × Int32) × (Nat → Int32) × (Nat → Int32)) => (∀ q, ¬ (16 ≤ q ∧ q ≤ 24) → u.1 q = sf q) ∧ u.1 16 = nI u.2.1 ∧ u.2.1 ≤ 8) (fun (u : (Nat → Int32) × Nat × (Nat → Int32) × (Int32 × Nat × Int32 × Int32) × (Nat → Int32) × (Nat → Int32)) => [(mo, .inr (7, [.ref mo_st, .ref mo_at, .ref mo_isKept, .int (nI mo_pe), .int (nI mo_hm), .ref mo_draft, .int (nI mo_dp), .int (nI mo_dh), .int mo_toldLines, .int mo_highest, .ref mo_tape, .int (nI mo_tl), .int (nI mo_ps), .int (nI mo_fr), .int mo_sort, .int mo_value, .int (nI mo_ft), .int mo_wrongAt, .ref mo_row, .int u.2.2.2.1.1, .int (nI (u.2.2.2.1.2.1)), .int u.2.2.2.1.2.2.1, .int u.2.2.2.1.2.2.2, .ref mo_before, .long mo_justSum, .long mo_toldSum, .long mo_allWays, .ref mo_lanes, .ref mo_sizes, .ref mo_cells, .int mo_torn, .ref mo_had])), (mo_st, .inl (k 0, 132, .inl (u.1))), (mo_at, .inl (k 0, 44, .inl (u.2.2.1))), (mo_row, .inl (k 0, 5, .inl (u.2.2.2.2.1))), (mo_before, .inl (k 0, 25, .inl (u.2.2.2.2.2)))]) := by
  refine Met.ofW (cc := cX8_lighter) (maxL := 3) (ret := (some .int)) (by decide) rfl ?_
  intro p e s m args below meth c s₁ B hml hv
  obtain ⟨rfl, hsz, hP, hK, hD0, hN⟩ := hv
  have hx := B.exec
  have hb := B.bytes
  have hr := B.returns
  have hlocks := B.notSynchronized
  have hts := atoms_spec (ws := wsX8_lighter) B.pre
  have hown : s.vm.findClass RX8 = some m.cls := findClass_of_methodNamed B.named
  have hiX8 : ∀ w ∈ u_ws RX8 TX8 32, w ∈ wsX8_lighter := by decide +kernel
  have fl66 := hts (.fieldLink RX8 66 "HalfScalesModel" "halfMany" "I") (by decide +kernel)
  have fl7 := hts (.fieldLink RX8 7 "HalfScalesModel" "st" "[I") (by decide +kernel)
  have fl29 := hts (.fieldLink RX8 29 "HalfScalesModel" "before" "[I") (by decide +kernel)
  subst hsz
  have hD := hD0.self (sz := s.heap.size)
  generalize hAe : va_A [(mo, .inr (7, [.ref mo_st, .ref mo_at, .ref mo_isKept, .int (nI mo_pe), .int (nI mo_hm), .ref mo_draft, .int (nI mo_dp), .int (nI mo_dh), .int mo_toldLines, .int mo_highest, .ref mo_tape, .int (nI mo_tl), .int (nI mo_ps), .int (nI mo_fr), .int mo_sort, .int mo_value, .int (nI mo_ft), .int mo_wrongAt, .ref mo_row, .int mo_orderMany, .int (nI mo_fo), .int mo_lightest, .int mo_heaviest, .ref mo_before, .long mo_justSum, .long mo_toldSum, .long mo_allWays, .ref mo_lanes, .ref mo_sizes, .ref mo_cells, .int mo_torn, .ref mo_had])), (mo_st, .inl (k 0, 132, .inl (sf))), (mo_at, .inl (k 0, 44, .inl (af))), (mo_row, .inl (k 0, 5, .inl (rf))), (mo_before, .inl (k 0, 25, .inl (bf)))] s.heap.size = A at hD ⊢
  have hA : ∀ q : Nat, s.heap.size ≤ q → A q := fun q h => by rw [← hAe]; exact Or.inr h
  have hS : va_S A s.heap s.heap [] := va_S.rf
  have hl := lv_entry ([.ref mo, .int a, .int b]) (n := 3) (Nat.le_of_ble_eq_true rfl)
  rw [lg_entry_eq]
  generalize (lg_sl ([.ref mo, .int a, .int b]) ++ List.replicate (3 - (lg_sl ([.ref mo, .int a, .int b])).length) Slot.unset).toArray = ls at hl ⊢
  have hl : lv_has ls 3 [(0, .ref mo), (1, .int a), (2, .int b)] := hl
  have hP : va_P D vwCl [(mo, .inr (7, [.ref mo_st, .ref mo_at, .ref mo_isKept, .int (nI mo_pe), .int (nI mo_hm), .ref mo_draft, .int (nI mo_dp), .int (nI mo_dh), .int mo_toldLines, .int mo_highest, .ref mo_tape, .int (nI mo_tl), .int (nI mo_ps), .int (nI mo_fr), .int mo_sort, .int mo_value, .int (nI mo_ft), .int mo_wrongAt, .ref mo_row, .int mo_orderMany, .int (nI mo_fo), .int mo_lightest, .int mo_heaviest, .ref mo_before, .long mo_justSum, .long mo_toldSum, .long mo_allWays, .ref mo_lanes, .ref mo_sizes, .ref mo_cells, .int mo_torn, .ref mo_had])), (mo_st, .inl (k 0, 132, .inl (sf))), (mo_at, .inl (k 0, 44, .inl (af))), (mo_row, .inl (k 0, 5, .inl (rf))), (mo_before, .inl (k 0, 25, .inl (bf)))] s.heap := hP
  refine lv_iload_n hx hb dX8_lighter_0 rfl (lv_at hl 1 rfl) ?_
  refine lv_i2l hx hb dX8_lighter_1 rfl ?_
  refine lv_lconst (v := 0) hx hb dX8_lighter_2 (by decide) ?_
  refine lv_aload_n hx hb dX8_lighter_3 rfl (lv_at hl 0 rfl) ?_
  refine va_get (D := D) (ci := 7) (v := .int (nI mo_hm)) (C := RX8) (T := TX8) (N := 32) hx hb hts hiX8 hown hK hP 0 rfl rfl 4 (by decide) fl66 (fun _ h9 => h9) rfl dX8_lighter_4 ?_
  refine lv_iconst (v := 1) hx hb dX8_lighter_7 (by decide) ?_
  refine lv_isub hx hb dX8_lighter_8 ?_
  refine lv_i2l hx hb dX8_lighter_9 rfl ?_
  refine hs_pi (va_runS (As := [.long (((a) : Int32).toInt64), .long 0, .long ((((nI mo_hm) - 1) : Int32).toInt64)]) (rest := []) ⟨hx, hb, hml, hown, hts⟩ (gm_in l D k _ a 0 ((nI mo_hm) - 1)) (va_cwS 3 hts gX8_lighter_X8_in rfl rfl rfl (by decide +kernel) ⟨Nat.le_of_ble_eq_true rfl, Nat.le_of_ble_eq_true rfl⟩) (hs_preS hK hN (hs_subP (w := []) hP [] rfl) (hD.sub (ws' := []) [] (by decide) rfl)) rfl rfl hl.1 rfl (lv_room (Nat.le_of_ble_eq_true rfl)) dX8_lighter_10 ⟨Nat.le_of_ble_eq_true rfl, Nat.le_of_ble_eq_true rfl⟩) hP hD hS hA (fun r_1 u_3 H locs hw_2 hP hS => ?_)
  refine hs_topi (hsb (hsin a 0 ((nI mo_hm) - 1))) hw_2 ?_
  refine lv_if_eq (tgt := 37) hx hb dX8_lighter_13 (by decide) (fun c_4 => ?_) (fun c_4 => ?_)
  · refine lv_iconst (v := (-1)) hx hb dX8_lighter_37 (by decide) ?_
    exact hs_iret hx hb hr hlocks hK hP hD hS (sf, c3, af, ((mo_orderMany, mo_fo, mo_lightest, mo_heaviest), rf, bf)) [0, 1, 2, 3, 4] rfl (by decide) dX8_lighter_38 (⟨fun _ _ => rfl, e3, h3⟩)
  · obtain ⟨j_5, hj_5, rfl⟩ := hs_inJ (n := mo_hm) (by omega) (hs_nb c_4)
    refine lv_iload_n hx hb dX8_lighter_16 rfl (lv_at hl 2 rfl) ?_
    refine lv_i2l hx hb dX8_lighter_17 rfl ?_
    refine lv_lconst (v := 0) hx hb dX8_lighter_18 (by decide) ?_
    refine lv_aload_n hx hb dX8_lighter_19 rfl (lv_at hl 0 rfl) ?_
    refine va_get (D := D) (ci := 7) (v := .int (nI mo_hm)) (C := RX8) (T := TX8) (N := 32) hx hb hts hiX8 hown hK hP 0 rfl rfl 4 (by decide) fl66 (fun _ h9 => h9) rfl dX8_lighter_20 ?_
    refine lv_iconst (v := 1) hx hb dX8_lighter_23 (by decide) ?_
    refine lv_isub hx hb dX8_lighter_24 ?_
    refine lv_i2l hx hb dX8_lighter_25 rfl ?_
    refine hs_pi (va_runS (As := [.long (((b) : Int32).toInt64), .long 0, .long ((((nI mo_hm) - 1) : Int32).toInt64)]) (rest := []) ⟨hx, hb, hml, hown, hts⟩ (gm_in l D k _ b 0 ((nI mo_hm) - 1)) (va_cwS 3 hts gX8_lighter_X8_in rfl rfl rfl (by decide +kernel) ⟨Nat.le_of_ble_eq_true rfl, Nat.le_of_ble_eq_true rfl⟩) (hs_preS hK hN (hs_subP (w := []) hP [] rfl) (hD.sub (ws' := []) [] (by decide) rfl)) rfl rfl hl.1 rfl (lv_room (Nat.le_of_ble_eq_true rfl)) dX8_lighter_26 ⟨Nat.le_of_ble_eq_true rfl, Nat.le_of_ble_eq_true rfl⟩) hP hD hS hA (fun r_6 u_8 H locs hw_7 hP hS => ?_)
    refine hs_topi (hsb (hsin b 0 ((nI mo_hm) - 1))) hw_7 ?_
    refine lv_if_eq (tgt := 37) hx hb dX8_lighter_29 (by decide) (fun c_9 => ?_) (fun c_9 => ?_)
    · refine lv_iconst (v := (-1)) hx hb dX8_lighter_37 (by decide) ?_
      exact hs_iret hx hb hr hlocks hK hP hD hS (sf, c3, af, ((mo_orderMany, mo_fo, mo_lightest, mo_heaviest), rf, bf)) [0, 1, 2, 3, 4] rfl (by decide) dX8_lighter_38 (⟨fun _ _ => rfl, e3, h3⟩)
    · obtain ⟨j_10, hj_10, rfl⟩ := hs_inJ (n := mo_hm) (by omega) (hs_nb c_9)
      refine lv_iload_n hx hb dX8_lighter_32 rfl (lv_at hl 1 rfl) ?_
      refine lv_iload_n hx hb dX8_lighter_33 rfl (lv_at hl 2 rfl) ?_
      refine lv_icmp_ne (tgt := 39) hx hb dX8_lighter_34 (by decide) (fun c_11 => ?_) (fun c_11 => ?_)
      · have nc_11 : ¬ j_5 = j_10 := fun hq9 => c_11 ((nI_eq (a := j_5) (b := j_10) (by omega) (by omega)).mpr hq9)
        refine lv_aload_n hx hb dX8_lighter_39 rfl (lv_at hl 0 rfl) ?_
        refine va_get (D := D) (ci := 7) (v := .ref mo_st) (C := RX8) (T := TX8) (N := 32) hx hb hts hiX8 hown hK hP 0 rfl rfl 0 (by decide) fl7 (fun _ h9 => h9) rfl dX8_lighter_40 ?_
        refine lv_bipush (v := 16) hx hb dX8_lighter_43 (by decide) ?_
        refine va_iald hx hb hK hP 1 0 rfl rfl (hs_in (by decide)) dX8_lighter_45 ?_
        refine hs_topi (nI c3) e3 ?_
        refine lv_bipush (v := 8) hx hb dX8_lighter_46 (by decide) ?_
        refine lv_icmp_ne (tgt := 54) hx hb dX8_lighter_48 (by decide) (fun c_12 => ?_) (fun c_12 => ?_)
        · have nc_12 : ¬ c3 = 8 := fun hq9 => c_12 ((nI_eq (a := c3) (b := 8) (by omega) (by omega)).mpr hq9)
          refine lv_aload_n hx hb dX8_lighter_54 rfl (lv_at hl 0 rfl) ?_
          refine hs_cv (va_runV (As := []) (rest := []) ⟨hx, hb, hml, hown, hts⟩ (gm_starts l D k _ mo mo_st mo_at mo_isKept mo_pe mo_hm mo_draft mo_dp mo_dh mo_toldLines mo_highest mo_tape mo_tl mo_ps mo_fr mo_sort mo_value mo_ft mo_wrongAt mo_row mo_orderMany mo_fo mo_lightest mo_heaviest mo_before mo_justSum mo_toldSum mo_allWays mo_lanes mo_sizes mo_cells mo_torn mo_had sf af) (cwV 0 hts gX8_lighter_X8_starts rfl rfl rfl (by decide +kernel) ⟨Nat.le_of_ble_eq_true rfl, Nat.le_of_ble_eq_true rfl⟩) (hs_preV hK hN (hs_subP (w := [(mo, .inr (7, [.ref mo_st, .ref mo_at, .ref mo_isKept, .int (nI mo_pe), .int (nI mo_hm), .ref mo_draft, .int (nI mo_dp), .int (nI mo_dh), .int mo_toldLines, .int mo_highest, .ref mo_tape, .int (nI mo_tl), .int (nI mo_ps), .int (nI mo_fr), .int mo_sort, .int mo_value, .int (nI mo_ft), .int mo_wrongAt, .ref mo_row, .int mo_orderMany, .int (nI mo_fo), .int mo_lightest, .int mo_heaviest, .ref mo_before, .long mo_justSum, .long mo_toldSum, .long mo_allWays, .ref mo_lanes, .ref mo_sizes, .ref mo_cells, .int mo_torn, .ref mo_had])), (mo_st, .inl (k 0, 132, .inl (sf))), (mo_at, .inl (k 0, 44, .inl (af)))]) hP [0, 1, 2] rfl) (hD.sub (ws' := [(mo, .inr (7, [.ref mo_st, .ref mo_at, .ref mo_isKept, .int (nI mo_pe), .int (nI mo_hm), .ref mo_draft, .int (nI mo_dp), .int (nI mo_dh), .int mo_toldLines, .int mo_highest, .ref mo_tape, .int (nI mo_tl), .int (nI mo_ps), .int (nI mo_fr), .int mo_sort, .int mo_value, .int (nI mo_ft), .int mo_wrongAt, .ref mo_row, .int mo_orderMany, .int (nI mo_fo), .int mo_lightest, .int mo_heaviest, .ref mo_before, .long mo_justSum, .long mo_toldSum, .long mo_allWays, .ref mo_lanes, .ref mo_sizes, .ref mo_cells, .int mo_torn, .ref mo_had])), (mo_st, .inl (k 0, 132, .inl (sf))), (mo_at, .inl (k 0, 44, .inl (af)))]) [0, 1, 2] (by decide) rfl) (ci := 7) (q0 := 0) rfl rfl) rfl rfl hl.1 rfl (lv_room (Nat.le_of_ble_eq_true rfl)) dX8_lighter_55 ⟨Nat.le_of_ble_eq_true rfl, Nat.le_of_ble_eq_true rfl⟩) hP hD hS hA [0, 1, 2] [3, 4] [(mo_row, .inl (k 0, 5, .inl (rf))), (mo_before, .inl (k 0, 25, .inl (bf)))] rfl rfl (by decide) (by decide) [2, 3, 4, 0, 1] (fun u_15 => [(mo, .inr (7, [.ref mo_st, .ref mo_at, .ref mo_isKept, .int (nI mo_pe), .int (nI mo_hm), .ref mo_draft, .int (nI mo_dp), .int (nI mo_dh), .int mo_toldLines, .int mo_highest, .ref mo_tape, .int (nI mo_tl), .int (nI mo_ps), .int (nI mo_fr), .int mo_sort, .int mo_value, .int (nI mo_ft), .int mo_wrongAt, .ref mo_row, .int mo_orderMany, .int (nI mo_fo), .int mo_lightest, .int mo_heaviest, .ref mo_before, .long mo_justSum, .long mo_toldSum, .long mo_allWays, .ref mo_lanes, .ref mo_sizes, .ref mo_cells, .int mo_torn, .ref mo_had])), (mo_st, .inl (k 0, 132, .inl (sf))), (mo_at, .inl (k 0, 44, .inl (u_15))), (mo_row, .inl (k 0, 5, .inl (rf))), (mo_before, .inl (k 0, 25, .inl (bf)))]) (fun _ => rfl) (by decide) (fun u_15 H locs hw_14 hP hD hS => ?_)
          have hP : va_P D vwCl [(mo, .inr (7, [.ref mo_st, .ref mo_at, .ref mo_isKept, .int (nI mo_pe), .int (nI mo_hm), .ref mo_draft, .int (nI mo_dp), .int (nI mo_dh), .int mo_toldLines, .int mo_highest, .ref mo_tape, .int (nI mo_tl), .int (nI mo_ps), .int (nI mo_fr), .int mo_sort, .int mo_value, .int (nI mo_ft), .int mo_wrongAt, .ref mo_row, .int mo_orderMany, .int (nI mo_fo), .int mo_lightest, .int mo_heaviest, .ref mo_before, .long mo_justSum, .long mo_toldSum, .long mo_allWays, .ref mo_lanes, .ref mo_sizes, .ref mo_cells, .int mo_torn, .ref mo_had])), (mo_st, .inl (k 0, 132, .inl (sf))), (mo_at, .inl (k 0, 44, .inl (u_15))), (mo_row, .inl (k 0, 5, .inl (rf))), (mo_before, .inl (k 0, 25, .inl (bf)))] H := hP
          have hD : va_D A [(mo, .inr (7, [.ref mo_st, .ref mo_at, .ref mo_isKept, .int (nI mo_pe), .int (nI mo_hm), .ref mo_draft, .int (nI mo_dp), .int (nI mo_dh), .int mo_toldLines, .int mo_highest, .ref mo_tape, .int (nI mo_tl), .int (nI mo_ps), .int (nI mo_fr), .int mo_sort, .int mo_value, .int (nI mo_ft), .int mo_wrongAt, .ref mo_row, .int mo_orderMany, .int (nI mo_fo), .int mo_lightest, .int mo_heaviest, .ref mo_before, .long mo_justSum, .long mo_toldSum, .long mo_allWays, .ref mo_lanes, .ref mo_sizes, .ref mo_cells, .int mo_torn, .ref mo_had])), (mo_st, .inl (k 0, 132, .inl (sf))), (mo_at, .inl (k 0, 44, .inl (u_15))), (mo_row, .inl (k 0, 5, .inl (rf))), (mo_before, .inl (k 0, 25, .inl (bf)))] := hD
          have hw_14 : ∀ j, j < 44 → u_15 j = sf j := hw_14
          have e0a : u_15 0 = nI c0 := (hw_14 0 (by decide)).trans e0
          have e3a : u_15 16 = nI c3 := (hw_14 16 (by decide)).trans e3
          have e4a : u_15 25 = nI c4 := (hw_14 25 (by decide)).trans e4
          have hw_14 : ∀ j, j < 44 → u_15 j = sf j := hw_14
          refine lv_aload_n hx hb dX8_lighter_58 rfl (lv_at hl 0 rfl) ?_
          refine lv_aload_n hx hb dX8_lighter_59 rfl (lv_at hl 0 rfl) ?_
          refine va_get (D := D) (ci := 7) (v := .int (nI mo_hm)) (C := RX8) (T := TX8) (N := 32) hx hb hts hiX8 hown hK hP 0 rfl rfl 4 (by decide) fl66 (fun _ h9 => h9) rfl dX8_lighter_60 ?_
          refine hs_cv (va_runV (As := [.int (nI mo_hm)]) (rest := []) ⟨hx, hb, hml, hown, hts⟩ (gm_findOrders l D k _ mo mo_st mo_at mo_isKept mo_pe mo_hm mo_draft mo_dp mo_dh mo_toldLines mo_highest mo_tape mo_tl mo_ps mo_fr mo_sort mo_value mo_ft mo_wrongAt mo_row mo_orderMany mo_fo mo_lightest mo_heaviest mo_before mo_justSum mo_toldSum mo_allWays mo_lanes mo_sizes mo_cells mo_torn mo_had u_15 rf bf c3 mo_hm (by first | exact e3a | exact e3) (by omega) (by omega) (by omega)) (cwV 1 hts gX8_lighter_X8_findOrders rfl rfl rfl (by decide +kernel) ⟨Nat.le_of_ble_eq_true rfl, Nat.le_of_ble_eq_true rfl⟩) (hs_preV hK hN (hs_subP (w := [(mo, .inr (7, [.ref mo_st, .ref mo_at, .ref mo_isKept, .int (nI mo_pe), .int (nI mo_hm), .ref mo_draft, .int (nI mo_dp), .int (nI mo_dh), .int mo_toldLines, .int mo_highest, .ref mo_tape, .int (nI mo_tl), .int (nI mo_ps), .int (nI mo_fr), .int mo_sort, .int mo_value, .int (nI mo_ft), .int mo_wrongAt, .ref mo_row, .int mo_orderMany, .int (nI mo_fo), .int mo_lightest, .int mo_heaviest, .ref mo_before, .long mo_justSum, .long mo_toldSum, .long mo_allWays, .ref mo_lanes, .ref mo_sizes, .ref mo_cells, .int mo_torn, .ref mo_had])), (mo_at, .inl (k 0, 44, .inl (u_15))), (mo_row, .inl (k 0, 5, .inl (rf))), (mo_before, .inl (k 0, 25, .inl (bf)))]) hP [0, 2, 3, 4] rfl) (hD.sub (ws' := [(mo, .inr (7, [.ref mo_st, .ref mo_at, .ref mo_isKept, .int (nI mo_pe), .int (nI mo_hm), .ref mo_draft, .int (nI mo_dp), .int (nI mo_dh), .int mo_toldLines, .int mo_highest, .ref mo_tape, .int (nI mo_tl), .int (nI mo_ps), .int (nI mo_fr), .int mo_sort, .int mo_value, .int (nI mo_ft), .int mo_wrongAt, .ref mo_row, .int mo_orderMany, .int (nI mo_fo), .int mo_lightest, .int mo_heaviest, .ref mo_before, .long mo_justSum, .long mo_toldSum, .long mo_allWays, .ref mo_lanes, .ref mo_sizes, .ref mo_cells, .int mo_torn, .ref mo_had])), (mo_at, .inl (k 0, 44, .inl (u_15))), (mo_row, .inl (k 0, 5, .inl (rf))), (mo_before, .inl (k 0, 25, .inl (bf)))]) [0, 2, 3, 4] (by decide) rfl) (ci := 7) (q0 := 0) rfl rfl) rfl rfl hl.1 rfl (lv_room (Nat.le_of_ble_eq_true rfl)) dX8_lighter_63 ⟨Nat.le_of_ble_eq_true rfl, Nat.le_of_ble_eq_true rfl⟩) hP hD hS hA [0, 2, 3, 4] [1] [(mo_st, .inl (k 0, 132, .inl (sf)))] rfl rfl (by decide) (by decide) [1, 0, 2, 3, 4] (fun u_18 => [(mo, .inr (7, [.ref mo_st, .ref mo_at, .ref mo_isKept, .int (nI mo_pe), .int (nI mo_hm), .ref mo_draft, .int (nI mo_dp), .int (nI mo_dh), .int mo_toldLines, .int mo_highest, .ref mo_tape, .int (nI mo_tl), .int (nI mo_ps), .int (nI mo_fr), .int mo_sort, .int mo_value, .int (nI mo_ft), .int mo_wrongAt, .ref mo_row, .int u_18.1.1, .int (nI (u_18.1.2.1)), .int u_18.1.2.2.1, .int u_18.1.2.2.2, .ref mo_before, .long mo_justSum, .long mo_toldSum, .long mo_allWays, .ref mo_lanes, .ref mo_sizes, .ref mo_cells, .int mo_torn, .ref mo_had])), (mo_st, .inl (k 0, 132, .inl (sf))), (mo_at, .inl (k 0, 44, .inl (u_15))), (mo_row, .inl (k 0, 5, .inl (u_18.2.1))), (mo_before, .inl (k 0, 25, .inl (u_18.2.2)))]) (fun _ => rfl) (by decide) (fun u_18 H locs hw_17 hP hD hS => ?_)
          have hP : va_P D vwCl [(mo, .inr (7, [.ref mo_st, .ref mo_at, .ref mo_isKept, .int (nI mo_pe), .int (nI mo_hm), .ref mo_draft, .int (nI mo_dp), .int (nI mo_dh), .int mo_toldLines, .int mo_highest, .ref mo_tape, .int (nI mo_tl), .int (nI mo_ps), .int (nI mo_fr), .int mo_sort, .int mo_value, .int (nI mo_ft), .int mo_wrongAt, .ref mo_row, .int u_18.1.1, .int (nI (u_18.1.2.1)), .int u_18.1.2.2.1, .int u_18.1.2.2.2, .ref mo_before, .long mo_justSum, .long mo_toldSum, .long mo_allWays, .ref mo_lanes, .ref mo_sizes, .ref mo_cells, .int mo_torn, .ref mo_had])), (mo_st, .inl (k 0, 132, .inl (sf))), (mo_at, .inl (k 0, 44, .inl (u_15))), (mo_row, .inl (k 0, 5, .inl (u_18.2.1))), (mo_before, .inl (k 0, 25, .inl (u_18.2.2)))] H := hP
          have hD : va_D A [(mo, .inr (7, [.ref mo_st, .ref mo_at, .ref mo_isKept, .int (nI mo_pe), .int (nI mo_hm), .ref mo_draft, .int (nI mo_dp), .int (nI mo_dh), .int mo_toldLines, .int mo_highest, .ref mo_tape, .int (nI mo_tl), .int (nI mo_ps), .int (nI mo_fr), .int mo_sort, .int mo_value, .int (nI mo_ft), .int mo_wrongAt, .ref mo_row, .int u_18.1.1, .int (nI (u_18.1.2.1)), .int u_18.1.2.2.1, .int u_18.1.2.2.2, .ref mo_before, .long mo_justSum, .long mo_toldSum, .long mo_allWays, .ref mo_lanes, .ref mo_sizes, .ref mo_cells, .int mo_torn, .ref mo_had])), (mo_st, .inl (k 0, 132, .inl (sf))), (mo_at, .inl (k 0, 44, .inl (u_15))), (mo_row, .inl (k 0, 5, .inl (u_18.2.1))), (mo_before, .inl (k 0, 25, .inl (u_18.2.2)))] := hD
          have hw_17 : u_18.1.2.1 ≤ 3125 := hw_17
          refine lv_aload_n hx hb dX8_lighter_66 rfl (lv_at hl 0 rfl) ?_
          refine va_get (D := D) (ci := 7) (v := .ref mo_before) (C := RX8) (T := TX8) (N := 32) hx hb hts hiX8 hown hK hP 0 rfl rfl 23 (by decide) fl29 (fun _ h9 => h9) rfl dX8_lighter_67 ?_
          refine lv_iconst (v := 5) hx hb dX8_lighter_70 (by decide) ?_
          refine lv_iload_n hx hb dX8_lighter_71 rfl (lv_at hl 1 rfl) ?_
          refine lv_imul hx hb dX8_lighter_72 ?_
          refine hs_topi (nI (5 * j_5)) (pk_mul (5) (j_5)) ?_
          refine lv_iload_n hx hb dX8_lighter_73 rfl (lv_at hl 2 rfl) ?_
          refine lv_iadd hx hb dX8_lighter_74 ?_
          refine hs_topi (nI ((5 * j_5) + j_10)) (nI_add ((5 * j_5)) (j_10)) ?_
          refine va_iald hx hb hK hP 4 0 rfl rfl (vp_in_nI (show ((5 * j_5) + j_10) < 25 by omega) (by decide)) dX8_lighter_75 ?_
          refine lv_if_ne (tgt := 82) hx hb dX8_lighter_76 (by decide) (fun c_19 => ?_) (fun c_19 => ?_)
          · refine lv_aload_n hx hb dX8_lighter_82 rfl (lv_at hl 0 rfl) ?_
            refine va_get (D := D) (ci := 7) (v := .ref mo_st) (C := RX8) (T := TX8) (N := 32) hx hb hts hiX8 hown hK hP 0 rfl rfl 0 (by decide) fl7 (fun _ h9 => h9) rfl dX8_lighter_83 ?_
            refine lv_bipush (v := 17) hx hb dX8_lighter_86 (by decide) ?_
            refine lv_aload_n hx hb dX8_lighter_88 rfl (lv_at hl 0 rfl) ?_
            refine va_get (D := D) (ci := 7) (v := .ref mo_st) (C := RX8) (T := TX8) (N := 32) hx hb hts hiX8 hown hK hP 0 rfl rfl 0 (by decide) fl7 (fun _ h9 => h9) rfl dX8_lighter_89 ?_
            refine lv_bipush (v := 16) hx hb dX8_lighter_92 (by decide) ?_
            refine va_iald hx hb hK hP 1 0 rfl rfl (hs_in (by decide)) dX8_lighter_94 ?_
            refine hs_topi (nI c3) e3 ?_
            refine lv_iadd hx hb dX8_lighter_95 ?_
            refine hs_topi (nI (17 + c3)) (nI_add (17) (c3)) ?_
            refine lv_bipush (v := 10) hx hb dX8_lighter_96 (by decide) ?_
            refine lv_iload_n hx hb dX8_lighter_98 rfl (lv_at hl 1 rfl) ?_
            refine lv_imul hx hb dX8_lighter_99 ?_
            refine hs_topi (nI (10 * j_5)) (pk_mul (10) (j_5)) ?_
            refine lv_iload_n hx hb dX8_lighter_100 rfl (lv_at hl 2 rfl) ?_
            refine lv_iadd hx hb dX8_lighter_101 ?_
            refine hs_topi (nI ((10 * j_5) + j_10)) (nI_add ((10 * j_5)) (j_10)) ?_
            refine va_iast hx hb hK hP hD hS 1 0 rfl rfl (vp_in_nI (show (17 + c3) < 132 by omega) (by decide)) dX8_lighter_102 (fun H locs hP hD hS => ?_)
            have hP : va_P D vwCl [(mo, .inr (7, [.ref mo_st, .ref mo_at, .ref mo_isKept, .int (nI mo_pe), .int (nI mo_hm), .ref mo_draft, .int (nI mo_dp), .int (nI mo_dh), .int mo_toldLines, .int mo_highest, .ref mo_tape, .int (nI mo_tl), .int (nI mo_ps), .int (nI mo_fr), .int mo_sort, .int mo_value, .int (nI mo_ft), .int mo_wrongAt, .ref mo_row, .int u_18.1.1, .int (nI (u_18.1.2.1)), .int u_18.1.2.2.1, .int u_18.1.2.2.2, .ref mo_before, .long mo_justSum, .long mo_toldSum, .long mo_allWays, .ref mo_lanes, .ref mo_sizes, .ref mo_cells, .int mo_torn, .ref mo_had])), (mo_st, .inl (k 0, 132, .inl (upd sf ((nI (17 + c3)).toNatClampNeg) (nI ((10 * j_5) + j_10))))), (mo_at, .inl (k 0, 44, .inl (u_15))), (mo_row, .inl (k 0, 5, .inl (u_18.2.1))), (mo_before, .inl (k 0, 25, .inl (u_18.2.2)))] H := hP
            have hD : va_D A [(mo, .inr (7, [.ref mo_st, .ref mo_at, .ref mo_isKept, .int (nI mo_pe), .int (nI mo_hm), .ref mo_draft, .int (nI mo_dp), .int (nI mo_dh), .int mo_toldLines, .int mo_highest, .ref mo_tape, .int (nI mo_tl), .int (nI mo_ps), .int (nI mo_fr), .int mo_sort, .int mo_value, .int (nI mo_ft), .int mo_wrongAt, .ref mo_row, .int u_18.1.1, .int (nI (u_18.1.2.1)), .int u_18.1.2.2.1, .int u_18.1.2.2.2, .ref mo_before, .long mo_justSum, .long mo_toldSum, .long mo_allWays, .ref mo_lanes, .ref mo_sizes, .ref mo_cells, .int mo_torn, .ref mo_had])), (mo_st, .inl (k 0, 132, .inl (upd sf ((nI (17 + c3)).toNatClampNeg) (nI ((10 * j_5) + j_10))))), (mo_at, .inl (k 0, 44, .inl (u_15))), (mo_row, .inl (k 0, 5, .inl (u_18.2.1))), (mo_before, .inl (k 0, 25, .inl (u_18.2.2)))] := hD
            refine lv_aload_n hx hb dX8_lighter_103 rfl (lv_at hl 0 rfl) ?_
            refine va_get (D := D) (ci := 7) (v := .ref mo_st) (C := RX8) (T := TX8) (N := 32) hx hb hts hiX8 hown hK hP 0 rfl rfl 0 (by decide) fl7 (fun _ h9 => h9) rfl dX8_lighter_104 ?_
            refine lv_bipush (v := 16) hx hb dX8_lighter_107 (by decide) ?_
            refine lv_dup2_11 hx hb dX8_lighter_109 rfl rfl ?_
            refine va_iald hx hb hK hP 1 0 rfl rfl (hs_in (by decide)) dX8_lighter_110 ?_
            refine hs_topi (nI c3) ((hs_uc (q := 16) (by omega) (by omega)).trans e3) ?_
            refine lv_iconst (v := 1) hx hb dX8_lighter_111 (by decide) ?_
            refine lv_iadd hx hb dX8_lighter_112 ?_
            refine hs_topi (nI (c3 + 1)) (nI_add (c3) (1)) ?_
            refine va_iast hx hb hK hP hD hS 1 0 rfl rfl (hs_in (by decide)) dX8_lighter_113 (fun H locs hP hD hS => ?_)
            have hP : va_P D vwCl [(mo, .inr (7, [.ref mo_st, .ref mo_at, .ref mo_isKept, .int (nI mo_pe), .int (nI mo_hm), .ref mo_draft, .int (nI mo_dp), .int (nI mo_dh), .int mo_toldLines, .int mo_highest, .ref mo_tape, .int (nI mo_tl), .int (nI mo_ps), .int (nI mo_fr), .int mo_sort, .int mo_value, .int (nI mo_ft), .int mo_wrongAt, .ref mo_row, .int u_18.1.1, .int (nI (u_18.1.2.1)), .int u_18.1.2.2.1, .int u_18.1.2.2.2, .ref mo_before, .long mo_justSum, .long mo_toldSum, .long mo_allWays, .ref mo_lanes, .ref mo_sizes, .ref mo_cells, .int mo_torn, .ref mo_had])), (mo_st, .inl (k 0, 132, .inl (upd (upd sf ((nI (17 + c3)).toNatClampNeg) (nI ((10 * j_5) + j_10))) 16 (nI (c3 + 1))))), (mo_at, .inl (k 0, 44, .inl (u_15))), (mo_row, .inl (k 0, 5, .inl (u_18.2.1))), (mo_before, .inl (k 0, 25, .inl (u_18.2.2)))] H := hP
            have hD : va_D A [(mo, .inr (7, [.ref mo_st, .ref mo_at, .ref mo_isKept, .int (nI mo_pe), .int (nI mo_hm), .ref mo_draft, .int (nI mo_dp), .int (nI mo_dh), .int mo_toldLines, .int mo_highest, .ref mo_tape, .int (nI mo_tl), .int (nI mo_ps), .int (nI mo_fr), .int mo_sort, .int mo_value, .int (nI mo_ft), .int mo_wrongAt, .ref mo_row, .int u_18.1.1, .int (nI (u_18.1.2.1)), .int u_18.1.2.2.1, .int u_18.1.2.2.2, .ref mo_before, .long mo_justSum, .long mo_toldSum, .long mo_allWays, .ref mo_lanes, .ref mo_sizes, .ref mo_cells, .int mo_torn, .ref mo_had])), (mo_st, .inl (k 0, 132, .inl (upd (upd sf ((nI (17 + c3)).toNatClampNeg) (nI ((10 * j_5) + j_10))) 16 (nI (c3 + 1))))), (mo_at, .inl (k 0, 44, .inl (u_15))), (mo_row, .inl (k 0, 5, .inl (u_18.2.1))), (mo_before, .inl (k 0, 25, .inl (u_18.2.2)))] := hD
            refine lv_aload_n hx hb dX8_lighter_114 rfl (lv_at hl 0 rfl) ?_
            refine va_get (D := D) (ci := 7) (v := .ref mo_st) (C := RX8) (T := TX8) (N := 32) hx hb hts hiX8 hown hK hP 0 rfl rfl 0 (by decide) fl7 (fun _ h9 => h9) rfl dX8_lighter_115 ?_
            refine lv_bipush (v := 16) hx hb dX8_lighter_118 (by decide) ?_
            refine va_iald hx hb hK hP 1 0 rfl rfl (hs_in (by decide)) dX8_lighter_120 ?_
            refine hs_topi (nI (c3 + 1)) (by first | rfl | decide +kernel) ?_
            exact hs_iret hx hb hr hlocks hK hP hD hS (upd (upd sf ((nI (17 + c3)).toNatClampNeg) (nI ((10 * j_5) + j_10))) 16 (nI (c3 + 1)), c3 + 1, u_15, ((u_18.1.1, u_18.1.2.1, u_18.1.2.2.1, u_18.1.2.2.2), u_18.2.1, u_18.2.2)) [0, 1, 2, 3, 4] rfl (by decide) dX8_lighter_121 (⟨fun q hq => by (try dsimp only); rw [hs_un (by omega), hs_uc (by omega) (by omega)], (by (try dsimp only); exact hs_uq rfl), by (try dsimp only); omega⟩)
          · refine lv_bipush (v := (-2)) hx hb dX8_lighter_79 (by decide) ?_
            exact hs_iret hx hb hr hlocks hK hP hD hS (sf, c3, u_15, ((u_18.1.1, u_18.1.2.1, u_18.1.2.2.1, u_18.1.2.2.2), u_18.2.1, u_18.2.2)) [0, 1, 2, 3, 4] rfl (by decide) dX8_lighter_81 (⟨fun _ _ => rfl, e3, h3⟩)
        · have nc_12 : c3 = 8 := (nI_eq (a := c3) (b := 8) (by omega) (by omega)).mp c_12
          refine lv_bipush (v := (-3)) hx hb dX8_lighter_51 (by decide) ?_
          exact hs_iret hx hb hr hlocks hK hP hD hS (sf, c3, af, ((mo_orderMany, mo_fo, mo_lightest, mo_heaviest), rf, bf)) [0, 1, 2, 3, 4] rfl (by decide) dX8_lighter_53 (⟨fun _ _ => rfl, e3, h3⟩)
      · have nc_11 : j_5 = j_10 := (nI_eq (a := j_5) (b := j_10) (by omega) (by omega)).mp c_11
        refine lv_iconst (v := (-1)) hx hb dX8_lighter_37 (by decide) ?_
        exact hs_iret hx hb hr hlocks hK hP hD hS (sf, c3, af, ((mo_orderMany, mo_fo, mo_lightest, mo_heaviest), rf, bf)) [0, 1, 2, 3, 4] rfl (by decide) dX8_lighter_38 (⟨fun _ _ => rfl, e3, h3⟩)

theorem hs_seen {f : Nat → Int32} {c p : Nat} {a b x : Int32} (hc : c ≤ 5) (hp : p < 4) (h : ∀ i, i < c → vp_in (f (26 + 3 * i)) 4) : ∀ i, i < c + 1 → vp_in (upd (upd (upd (upd f (nI (26 + (3 * c))).toNatClampNeg (nI p)) (nI ((26 + (3 * c)) + 1)).toNatClampNeg a) (nI ((26 + (3 * c)) + 2)).toNatClampNeg b) 25 x (26 + 3 * i)) 4 := by
  intro i hi
  rw [hs_un (by omega), hs_uc (by omega) (by omega), hs_uc (by omega) (by omega)]
  by_cases e : i = c
  · subst e
    rw [hs_ue (by omega) rfl]
    exact vp_in_nI hp (by decide)
  · rw [hs_uc (by omega) (by omega)]
    exact h i (by omega)

set_option maxHeartbeats 4000000 in
set_option maxRecDepth 100000 in
theorem gq_see (l : Launch) (D : va_G) (k : Nat → ClassId) (sz : Nat) (mo : Nat) (mo_st : Nat) (mo_at : Nat) (mo_isKept : Nat) (mo_pe : Nat) (mo_hm : Nat) (mo_draft : Nat) (mo_dp : Nat) (mo_dh : Nat) (mo_toldLines : Int32) (mo_highest : Int32) (mo_tape : Nat) (mo_tl : Nat) (mo_ps : Nat) (mo_fr : Nat) (mo_sort : Int32) (mo_value : Int32) (mo_ft : Nat) (mo_wrongAt : Int32) (mo_row : Nat) (mo_orderMany : Int32) (mo_fo : Nat) (mo_lightest : Int32) (mo_heaviest : Int32) (mo_before : Nat) (mo_justSum : Int64) (mo_toldSum : Int64) (mo_allWays : Int64) (mo_lanes : Nat) (mo_sizes : Nat) (mo_cells : Nat) (mo_torn : Int32) (mo_had : Nat) (sf : Nat → Int32) (c0 : Nat) (c3 : Nat) (c4 : Nat) (fi : Nat) (i : Int32) (kk : Int32) (fo : Int32) (e0 : sf 0 = nI c0) (h0 : c0 ≤ 8) (h02 : 2 ≤ c0) (e3 : sf 16 = nI c3) (h3 : c3 ≤ 8) (e4 : sf 25 = nI c4) (h4 : c4 ≤ 6) (hpe : mo_pe ≤ 4) (hm2 : 2 ≤ mo_hm) (hm5 : mo_hm ≤ 5) (ef : sf 14 = nI fi) (hfi : fi ≤ 99) (hsaw : ∀ i, i < c4 → vp_in (sf (26 + 3 * i)) 4) : MI l yX8_see wsX8_see ({ frames := 2, cells := 0, slots := 0, locals := 46 }) D k [.ref mo, .int i, .int kk, .int fo] [(mo, .inr (7, [.ref mo_st, .ref mo_at, .ref mo_isKept, .int (nI mo_pe), .int (nI mo_hm), .ref mo_draft, .int (nI mo_dp), .int (nI mo_dh), .int mo_toldLines, .int mo_highest, .ref mo_tape, .int (nI mo_tl), .int (nI mo_ps), .int (nI mo_fr), .int mo_sort, .int mo_value, .int (nI mo_ft), .int mo_wrongAt, .ref mo_row, .int mo_orderMany, .int (nI mo_fo), .int mo_lightest, .int mo_heaviest, .ref mo_before, .long mo_justSum, .long mo_toldSum, .long mo_allWays, .ref mo_lanes, .ref mo_sizes, .ref mo_cells, .int mo_torn, .ref mo_had])), (mo_st, .inl (k 0, 132, .inl (sf)))] sz (fun (r : Int32) (u : (Nat → Int32) × Nat) => (∀ q, ¬ (25 ≤ q ∧ q ≤ 43) → u.1 q = sf q) ∧ u.1 25 = nI u.2 ∧ u.2 ≤ 6 ∧ ∀ i, i < u.2 → vp_in (u.1 (26 + 3 * i)) 4) (fun (u : (Nat → Int32) × Nat) => [(mo, .inr (7, [.ref mo_st, .ref mo_at, .ref mo_isKept, .int (nI mo_pe), .int (nI mo_hm), .ref mo_draft, .int (nI mo_dp), .int (nI mo_dh), .int mo_toldLines, .int mo_highest, .ref mo_tape, .int (nI mo_tl), .int (nI mo_ps), .int (nI mo_fr), .int mo_sort, .int mo_value, .int (nI mo_ft), .int mo_wrongAt, .ref mo_row, .int mo_orderMany, .int (nI mo_fo), .int mo_lightest, .int mo_heaviest, .ref mo_before, .long mo_justSum, .long mo_toldSum, .long mo_allWays, .ref mo_lanes, .ref mo_sizes, .ref mo_cells, .int mo_torn, .ref mo_had])), (mo_st, .inl (k 0, 132, .inl (u.1)))]) := by
  refine Met.ofW (cc := cX8_see) (maxL := 5) (ret := (some .int)) (by decide) rfl ?_
  intro p e s m args below meth c s₁ B hml hv
  obtain ⟨rfl, hsz, hP, hK, hD0, hN⟩ := hv
  have hx := B.exec
  have hb := B.bytes
  have hr := B.returns
  have hlocks := B.notSynchronized
  have hts := atoms_spec (ws := wsX8_see) B.pre
  have hown : s.vm.findClass RX8 = some m.cls := findClass_of_methodNamed B.named
  have hiX8 : ∀ w ∈ u_ws RX8 TX8 32, w ∈ wsX8_see := by decide +kernel
  have fl7 := hts (.fieldLink RX8 7 "HalfScalesModel" "st" "[I") (by decide +kernel)
  have kl197 := hts (.constantLong RX8 197 (2)) (by decide +kernel)
  subst hsz
  have hD := hD0.self (sz := s.heap.size)
  generalize hAe : va_A [(mo, .inr (7, [.ref mo_st, .ref mo_at, .ref mo_isKept, .int (nI mo_pe), .int (nI mo_hm), .ref mo_draft, .int (nI mo_dp), .int (nI mo_dh), .int mo_toldLines, .int mo_highest, .ref mo_tape, .int (nI mo_tl), .int (nI mo_ps), .int (nI mo_fr), .int mo_sort, .int mo_value, .int (nI mo_ft), .int mo_wrongAt, .ref mo_row, .int mo_orderMany, .int (nI mo_fo), .int mo_lightest, .int mo_heaviest, .ref mo_before, .long mo_justSum, .long mo_toldSum, .long mo_allWays, .ref mo_lanes, .ref mo_sizes, .ref mo_cells, .int mo_torn, .ref mo_had])), (mo_st, .inl (k 0, 132, .inl (sf)))] s.heap.size = A at hD ⊢
  have hA : ∀ q : Nat, s.heap.size ≤ q → A q := fun q h => by rw [← hAe]; exact Or.inr h
  have hS : va_S A s.heap s.heap [] := va_S.rf
  have hl := lv_entry ([.ref mo, .int i, .int kk, .int fo]) (n := 5) (Nat.le_of_ble_eq_true rfl)
  rw [lg_entry_eq]
  generalize (lg_sl ([.ref mo, .int i, .int kk, .int fo]) ++ List.replicate (5 - (lg_sl ([.ref mo, .int i, .int kk, .int fo])).length) Slot.unset).toArray = ls at hl ⊢
  have hl : lv_has ls 5 [(0, .ref mo), (1, .int i), (2, .int kk), (3, .int fo)] := hl
  have hP : va_P D vwCl [(mo, .inr (7, [.ref mo_st, .ref mo_at, .ref mo_isKept, .int (nI mo_pe), .int (nI mo_hm), .ref mo_draft, .int (nI mo_dp), .int (nI mo_dh), .int mo_toldLines, .int mo_highest, .ref mo_tape, .int (nI mo_tl), .int (nI mo_ps), .int (nI mo_fr), .int mo_sort, .int mo_value, .int (nI mo_ft), .int mo_wrongAt, .ref mo_row, .int mo_orderMany, .int (nI mo_fo), .int mo_lightest, .int mo_heaviest, .ref mo_before, .long mo_justSum, .long mo_toldSum, .long mo_allWays, .ref mo_lanes, .ref mo_sizes, .ref mo_cells, .int mo_torn, .ref mo_had])), (mo_st, .inl (k 0, 132, .inl (sf)))] s.heap := hP
  refine lv_aload_n hx hb dX8_see_0 rfl (lv_at hl 0 rfl) ?_
  refine lv_iload_n hx hb dX8_see_1 rfl (lv_at hl 1 rfl) ?_
  refine hs_ci (va_runV (As := [.int i]) (rest := []) ⟨hx, hb, hml, hown, hts⟩ (gm_isPerson l D k _ mo mo_st mo_at mo_isKept mo_pe mo_hm mo_draft mo_dp mo_dh mo_toldLines mo_highest mo_tape mo_tl mo_ps mo_fr mo_sort mo_value mo_ft mo_wrongAt mo_row mo_orderMany mo_fo mo_lightest mo_heaviest mo_before mo_justSum mo_toldSum mo_allWays mo_lanes mo_sizes mo_cells mo_torn mo_had i (by omega)) (cwV 1 hts gX8_see_X8_isPerson rfl rfl rfl (by decide +kernel) ⟨Nat.le_of_ble_eq_true rfl, Nat.le_of_ble_eq_true rfl⟩) (hs_preV hK hN (hs_subP (w := [(mo, .inr (7, [.ref mo_st, .ref mo_at, .ref mo_isKept, .int (nI mo_pe), .int (nI mo_hm), .ref mo_draft, .int (nI mo_dp), .int (nI mo_dh), .int mo_toldLines, .int mo_highest, .ref mo_tape, .int (nI mo_tl), .int (nI mo_ps), .int (nI mo_fr), .int mo_sort, .int mo_value, .int (nI mo_ft), .int mo_wrongAt, .ref mo_row, .int mo_orderMany, .int (nI mo_fo), .int mo_lightest, .int mo_heaviest, .ref mo_before, .long mo_justSum, .long mo_toldSum, .long mo_allWays, .ref mo_lanes, .ref mo_sizes, .ref mo_cells, .int mo_torn, .ref mo_had]))]) hP [0] rfl) (hD.sub (ws' := [(mo, .inr (7, [.ref mo_st, .ref mo_at, .ref mo_isKept, .int (nI mo_pe), .int (nI mo_hm), .ref mo_draft, .int (nI mo_dp), .int (nI mo_dh), .int mo_toldLines, .int mo_highest, .ref mo_tape, .int (nI mo_tl), .int (nI mo_ps), .int (nI mo_fr), .int mo_sort, .int mo_value, .int (nI mo_ft), .int mo_wrongAt, .ref mo_row, .int mo_orderMany, .int (nI mo_fo), .int mo_lightest, .int mo_heaviest, .ref mo_before, .long mo_justSum, .long mo_toldSum, .long mo_allWays, .ref mo_lanes, .ref mo_sizes, .ref mo_cells, .int mo_torn, .ref mo_had]))]) [0] (by decide) rfl) (ci := 7) (q0 := 0) rfl rfl) rfl rfl hl.1 rfl (lv_room (Nat.le_of_ble_eq_true rfl)) dX8_see_2 ⟨Nat.le_of_ble_eq_true rfl, Nat.le_of_ble_eq_true rfl⟩) hP hD hS hA [0] [1] [(mo_st, .inl (k 0, 132, .inl (sf)))] rfl rfl (by decide) (by decide) [1, 0] (fun u_3 => [(mo, .inr (7, [.ref mo_st, .ref mo_at, .ref mo_isKept, .int (nI mo_pe), .int (nI mo_hm), .ref mo_draft, .int (nI mo_dp), .int (nI mo_dh), .int mo_toldLines, .int mo_highest, .ref mo_tape, .int (nI mo_tl), .int (nI mo_ps), .int (nI mo_fr), .int mo_sort, .int mo_value, .int (nI mo_ft), .int mo_wrongAt, .ref mo_row, .int mo_orderMany, .int (nI mo_fo), .int mo_lightest, .int mo_heaviest, .ref mo_before, .long mo_justSum, .long mo_toldSum, .long mo_allWays, .ref mo_lanes, .ref mo_sizes, .ref mo_cells, .int mo_torn, .ref mo_had])), (mo_st, .inl (k 0, 132, .inl (sf)))]) (fun _ => rfl) (by decide) (fun r_1 u_3 H locs hw_2 hP hD hS => ?_)
  have hP : va_P D vwCl [(mo, .inr (7, [.ref mo_st, .ref mo_at, .ref mo_isKept, .int (nI mo_pe), .int (nI mo_hm), .ref mo_draft, .int (nI mo_dp), .int (nI mo_dh), .int mo_toldLines, .int mo_highest, .ref mo_tape, .int (nI mo_tl), .int (nI mo_ps), .int (nI mo_fr), .int mo_sort, .int mo_value, .int (nI mo_ft), .int mo_wrongAt, .ref mo_row, .int mo_orderMany, .int (nI mo_fo), .int mo_lightest, .int mo_heaviest, .ref mo_before, .long mo_justSum, .long mo_toldSum, .long mo_allWays, .ref mo_lanes, .ref mo_sizes, .ref mo_cells, .int mo_torn, .ref mo_had])), (mo_st, .inl (k 0, 132, .inl (sf)))] H := hP
  have hD : va_D A [(mo, .inr (7, [.ref mo_st, .ref mo_at, .ref mo_isKept, .int (nI mo_pe), .int (nI mo_hm), .ref mo_draft, .int (nI mo_dp), .int (nI mo_dh), .int mo_toldLines, .int mo_highest, .ref mo_tape, .int (nI mo_tl), .int (nI mo_ps), .int (nI mo_fr), .int mo_sort, .int mo_value, .int (nI mo_ft), .int mo_wrongAt, .ref mo_row, .int mo_orderMany, .int (nI mo_fo), .int mo_lightest, .int mo_heaviest, .ref mo_before, .long mo_justSum, .long mo_toldSum, .long mo_allWays, .ref mo_lanes, .ref mo_sizes, .ref mo_cells, .int mo_torn, .ref mo_had])), (mo_st, .inl (k 0, 132, .inl (sf)))] := hD
  refine hs_topi (hsb (hslt i mo_pe)) hw_2 ?_
  refine lv_if_eq (tgt := 28) hx hb dX8_see_5 (by decide) (fun c_4 => ?_) (fun c_4 => ?_)
  · refine lv_iconst (v := (-1)) hx hb dX8_see_28 (by decide) ?_
    exact hs_iret hx hb hr hlocks hK hP hD hS (sf, c4) [0, 1] rfl (by decide) dX8_see_29 (⟨fun _ _ => rfl, e4, h4, hsaw⟩)
  · obtain ⟨j_5, hj_5, rfl⟩ := hslt_ex (hs_nb c_4)
    refine lv_aload_n hx hb dX8_see_8 rfl (lv_at hl 0 rfl) ?_
    refine lv_iload_n hx hb dX8_see_9 rfl (lv_at hl 2 rfl) ?_
    refine hs_ci (va_runV (As := [.int kk]) (rest := []) ⟨hx, hb, hml, hown, hts⟩ (gm_isCut l D k _ mo mo_st mo_at mo_isKept mo_pe mo_hm mo_draft mo_dp mo_dh mo_toldLines mo_highest mo_tape mo_tl mo_ps mo_fr mo_sort mo_value mo_ft mo_wrongAt mo_row mo_orderMany mo_fo mo_lightest mo_heaviest mo_before mo_justSum mo_toldSum mo_allWays mo_lanes mo_sizes mo_cells mo_torn mo_had sf c0 kk e0 (by omega)) (cwV 1 hts gX8_see_X8_isCut rfl rfl rfl (by decide +kernel) ⟨Nat.le_of_ble_eq_true rfl, Nat.le_of_ble_eq_true rfl⟩) (hs_preV hK hN (hs_subP (w := [(mo, .inr (7, [.ref mo_st, .ref mo_at, .ref mo_isKept, .int (nI mo_pe), .int (nI mo_hm), .ref mo_draft, .int (nI mo_dp), .int (nI mo_dh), .int mo_toldLines, .int mo_highest, .ref mo_tape, .int (nI mo_tl), .int (nI mo_ps), .int (nI mo_fr), .int mo_sort, .int mo_value, .int (nI mo_ft), .int mo_wrongAt, .ref mo_row, .int mo_orderMany, .int (nI mo_fo), .int mo_lightest, .int mo_heaviest, .ref mo_before, .long mo_justSum, .long mo_toldSum, .long mo_allWays, .ref mo_lanes, .ref mo_sizes, .ref mo_cells, .int mo_torn, .ref mo_had])), (mo_st, .inl (k 0, 132, .inl (sf)))]) hP [0, 1] rfl) (hD.sub (ws' := [(mo, .inr (7, [.ref mo_st, .ref mo_at, .ref mo_isKept, .int (nI mo_pe), .int (nI mo_hm), .ref mo_draft, .int (nI mo_dp), .int (nI mo_dh), .int mo_toldLines, .int mo_highest, .ref mo_tape, .int (nI mo_tl), .int (nI mo_ps), .int (nI mo_fr), .int mo_sort, .int mo_value, .int (nI mo_ft), .int mo_wrongAt, .ref mo_row, .int mo_orderMany, .int (nI mo_fo), .int mo_lightest, .int mo_heaviest, .ref mo_before, .long mo_justSum, .long mo_toldSum, .long mo_allWays, .ref mo_lanes, .ref mo_sizes, .ref mo_cells, .int mo_torn, .ref mo_had])), (mo_st, .inl (k 0, 132, .inl (sf)))]) [0, 1] (by decide) rfl) (ci := 7) (q0 := 0) rfl rfl) rfl rfl hl.1 rfl (lv_room (Nat.le_of_ble_eq_true rfl)) dX8_see_10 ⟨Nat.le_of_ble_eq_true rfl, Nat.le_of_ble_eq_true rfl⟩) hP hD hS hA [0, 1] [] [] rfl rfl (by decide) (by decide) [0, 1] (fun u_8 => [(mo, .inr (7, [.ref mo_st, .ref mo_at, .ref mo_isKept, .int (nI mo_pe), .int (nI mo_hm), .ref mo_draft, .int (nI mo_dp), .int (nI mo_dh), .int mo_toldLines, .int mo_highest, .ref mo_tape, .int (nI mo_tl), .int (nI mo_ps), .int (nI mo_fr), .int mo_sort, .int mo_value, .int (nI mo_ft), .int mo_wrongAt, .ref mo_row, .int mo_orderMany, .int (nI mo_fo), .int mo_lightest, .int mo_heaviest, .ref mo_before, .long mo_justSum, .long mo_toldSum, .long mo_allWays, .ref mo_lanes, .ref mo_sizes, .ref mo_cells, .int mo_torn, .ref mo_had])), (mo_st, .inl (k 0, 132, .inl (sf)))]) (fun _ => rfl) (by decide) (fun r_6 u_8 H locs hw_7 hP hD hS => ?_)
    have hP : va_P D vwCl [(mo, .inr (7, [.ref mo_st, .ref mo_at, .ref mo_isKept, .int (nI mo_pe), .int (nI mo_hm), .ref mo_draft, .int (nI mo_dp), .int (nI mo_dh), .int mo_toldLines, .int mo_highest, .ref mo_tape, .int (nI mo_tl), .int (nI mo_ps), .int (nI mo_fr), .int mo_sort, .int mo_value, .int (nI mo_ft), .int mo_wrongAt, .ref mo_row, .int mo_orderMany, .int (nI mo_fo), .int mo_lightest, .int mo_heaviest, .ref mo_before, .long mo_justSum, .long mo_toldSum, .long mo_allWays, .ref mo_lanes, .ref mo_sizes, .ref mo_cells, .int mo_torn, .ref mo_had])), (mo_st, .inl (k 0, 132, .inl (sf)))] H := hP
    have hD : va_D A [(mo, .inr (7, [.ref mo_st, .ref mo_at, .ref mo_isKept, .int (nI mo_pe), .int (nI mo_hm), .ref mo_draft, .int (nI mo_dp), .int (nI mo_dh), .int mo_toldLines, .int mo_highest, .ref mo_tape, .int (nI mo_tl), .int (nI mo_ps), .int (nI mo_fr), .int mo_sort, .int mo_value, .int (nI mo_ft), .int mo_wrongAt, .ref mo_row, .int mo_orderMany, .int (nI mo_fo), .int mo_lightest, .int mo_heaviest, .ref mo_before, .long mo_justSum, .long mo_toldSum, .long mo_allWays, .ref mo_lanes, .ref mo_sizes, .ref mo_cells, .int mo_torn, .ref mo_had])), (mo_st, .inl (k 0, 132, .inl (sf)))] := hD
    refine hs_topi (hsb (hslt1 kk c0)) hw_7 ?_
    refine lv_if_eq (tgt := 28) hx hb dX8_see_13 (by decide) (fun c_9 => ?_) (fun c_9 => ?_)
    · refine lv_iconst (v := (-1)) hx hb dX8_see_28 (by decide) ?_
      exact hs_iret hx hb hr hlocks hK hP hD hS (sf, c4) [0, 1] rfl (by decide) dX8_see_29 (⟨fun _ _ => rfl, e4, h4, hsaw⟩)
    · refine lv_iload_n hx hb dX8_see_16 rfl (lv_at hl 3 rfl) ?_
      refine lv_i2l hx hb dX8_see_17 rfl ?_
      refine lv_lconst (v := 0) hx hb dX8_see_18 (by decide) ?_
      refine lv_ldc2 hx hb hown kl197 dX8_see_19 ?_
      refine hs_pi (va_runS (As := [.long (((fo) : Int32).toInt64), .long 0, .long 2]) (rest := []) ⟨hx, hb, hml, hown, hts⟩ (gm_in l D k _ fo 0 2) (va_cwS 3 hts gX8_see_X8_in rfl rfl rfl (by decide +kernel) ⟨Nat.le_of_ble_eq_true rfl, Nat.le_of_ble_eq_true rfl⟩) (hs_preS hK hN (hs_subP (w := []) hP [] rfl) (hD.sub (ws' := []) [] (by decide) rfl)) rfl rfl hl.1 rfl (lv_room (Nat.le_of_ble_eq_true rfl)) dX8_see_22 ⟨Nat.le_of_ble_eq_true rfl, Nat.le_of_ble_eq_true rfl⟩) hP hD hS hA (fun r_10 u_12 H locs hw_11 hP hS => ?_)
      refine hs_topi (hsb (hsin fo 0 2)) hw_11 ?_
      refine lv_if_ne (tgt := 30) hx hb dX8_see_25 (by decide) (fun c_13 => ?_) (fun c_13 => ?_)
      · refine lv_aload_n hx hb dX8_see_30 rfl (lv_at hl 0 rfl) ?_
        refine va_get (D := D) (ci := 7) (v := .ref mo_st) (C := RX8) (T := TX8) (N := 32) hx hb hts hiX8 hown hK hP 0 rfl rfl 0 (by decide) fl7 (fun _ h9 => h9) rfl dX8_see_31 ?_
        refine lv_bipush (v := 25) hx hb dX8_see_34 (by decide) ?_
        refine va_iald hx hb hK hP 1 0 rfl rfl (hs_in (by decide)) dX8_see_36 ?_
        refine hs_topi (nI c4) e4 ?_
        refine lv_bipush (v := 6) hx hb dX8_see_37 (by decide) ?_
        refine lv_icmp_ne (tgt := 45) hx hb dX8_see_39 (by decide) (fun c_14 => ?_) (fun c_14 => ?_)
        · have nc_14 : ¬ c4 = 6 := fun hq9 => c_14 ((nI_eq (a := c4) (b := 6) (by omega) (by omega)).mpr hq9)
          refine lv_bipush (v := 26) hx hb dX8_see_45 (by decide) ?_
          refine lv_iconst (v := 3) hx hb dX8_see_47 (by decide) ?_
          refine lv_aload_n hx hb dX8_see_48 rfl (lv_at hl 0 rfl) ?_
          refine va_get (D := D) (ci := 7) (v := .ref mo_st) (C := RX8) (T := TX8) (N := 32) hx hb hts hiX8 hown hK hP 0 rfl rfl 0 (by decide) fl7 (fun _ h9 => h9) rfl dX8_see_49 ?_
          refine lv_bipush (v := 25) hx hb dX8_see_52 (by decide) ?_
          refine va_iald hx hb hK hP 1 0 rfl rfl (hs_in (by decide)) dX8_see_54 ?_
          refine hs_topi (nI c4) e4 ?_
          refine lv_imul hx hb dX8_see_55 ?_
          refine hs_topi (nI (3 * c4)) (pk_mul (3) (c4)) ?_
          refine lv_iadd hx hb dX8_see_56 ?_
          refine hs_topi (nI (26 + (3 * c4))) (nI_add (26) ((3 * c4))) ?_
          refine lv_istore (lv' := [(4, .int (nI (26 + (3 * c4)))), (0, .ref mo), (1, .int (nI j_5)), (2, .int kk), (3, .int fo)]) hx hb dX8_see_57 hl (by decide) rfl (fun ls hl => ?_)
          refine lv_aload_n hx hb dX8_see_59 rfl (lv_at hl 1 rfl) ?_
          refine va_get (D := D) (ci := 7) (v := .ref mo_st) (C := RX8) (T := TX8) (N := 32) hx hb hts hiX8 hown hK hP 0 rfl rfl 0 (by decide) fl7 (fun _ h9 => h9) rfl dX8_see_60 ?_
          refine lv_iload hx hb dX8_see_63 (lv_at hl 0 rfl) ?_
          refine lv_iload_n hx hb dX8_see_65 rfl (lv_at hl 2 rfl) ?_
          refine va_iast hx hb hK hP hD hS 1 0 rfl rfl (vp_in_nI (show (26 + (3 * c4)) < 132 by omega) (by decide)) dX8_see_66 (fun H locs hP hD hS => ?_)
          have hP : va_P D vwCl [(mo, .inr (7, [.ref mo_st, .ref mo_at, .ref mo_isKept, .int (nI mo_pe), .int (nI mo_hm), .ref mo_draft, .int (nI mo_dp), .int (nI mo_dh), .int mo_toldLines, .int mo_highest, .ref mo_tape, .int (nI mo_tl), .int (nI mo_ps), .int (nI mo_fr), .int mo_sort, .int mo_value, .int (nI mo_ft), .int mo_wrongAt, .ref mo_row, .int mo_orderMany, .int (nI mo_fo), .int mo_lightest, .int mo_heaviest, .ref mo_before, .long mo_justSum, .long mo_toldSum, .long mo_allWays, .ref mo_lanes, .ref mo_sizes, .ref mo_cells, .int mo_torn, .ref mo_had])), (mo_st, .inl (k 0, 132, .inl (upd sf ((nI (26 + (3 * c4))).toNatClampNeg) (nI j_5))))] H := hP
          have hD : va_D A [(mo, .inr (7, [.ref mo_st, .ref mo_at, .ref mo_isKept, .int (nI mo_pe), .int (nI mo_hm), .ref mo_draft, .int (nI mo_dp), .int (nI mo_dh), .int mo_toldLines, .int mo_highest, .ref mo_tape, .int (nI mo_tl), .int (nI mo_ps), .int (nI mo_fr), .int mo_sort, .int mo_value, .int (nI mo_ft), .int mo_wrongAt, .ref mo_row, .int mo_orderMany, .int (nI mo_fo), .int mo_lightest, .int mo_heaviest, .ref mo_before, .long mo_justSum, .long mo_toldSum, .long mo_allWays, .ref mo_lanes, .ref mo_sizes, .ref mo_cells, .int mo_torn, .ref mo_had])), (mo_st, .inl (k 0, 132, .inl (upd sf ((nI (26 + (3 * c4))).toNatClampNeg) (nI j_5))))] := hD
          refine lv_aload_n hx hb dX8_see_67 rfl (lv_at hl 1 rfl) ?_
          refine va_get (D := D) (ci := 7) (v := .ref mo_st) (C := RX8) (T := TX8) (N := 32) hx hb hts hiX8 hown hK hP 0 rfl rfl 0 (by decide) fl7 (fun _ h9 => h9) rfl dX8_see_68 ?_
          refine lv_iload hx hb dX8_see_71 (lv_at hl 0 rfl) ?_
          refine lv_iconst (v := 1) hx hb dX8_see_73 (by decide) ?_
          refine lv_iadd hx hb dX8_see_74 ?_
          refine hs_topi (nI ((26 + (3 * c4)) + 1)) (nI_add ((26 + (3 * c4))) (1)) ?_
          refine lv_iload_n hx hb dX8_see_75 rfl (lv_at hl 3 rfl) ?_
          refine va_iast hx hb hK hP hD hS 1 0 rfl rfl (vp_in_nI (show ((26 + (3 * c4)) + 1) < 132 by omega) (by decide)) dX8_see_76 (fun H locs hP hD hS => ?_)
          have hP : va_P D vwCl [(mo, .inr (7, [.ref mo_st, .ref mo_at, .ref mo_isKept, .int (nI mo_pe), .int (nI mo_hm), .ref mo_draft, .int (nI mo_dp), .int (nI mo_dh), .int mo_toldLines, .int mo_highest, .ref mo_tape, .int (nI mo_tl), .int (nI mo_ps), .int (nI mo_fr), .int mo_sort, .int mo_value, .int (nI mo_ft), .int mo_wrongAt, .ref mo_row, .int mo_orderMany, .int (nI mo_fo), .int mo_lightest, .int mo_heaviest, .ref mo_before, .long mo_justSum, .long mo_toldSum, .long mo_allWays, .ref mo_lanes, .ref mo_sizes, .ref mo_cells, .int mo_torn, .ref mo_had])), (mo_st, .inl (k 0, 132, .inl (upd (upd sf ((nI (26 + (3 * c4))).toNatClampNeg) (nI j_5)) ((nI ((26 + (3 * c4)) + 1)).toNatClampNeg) kk)))] H := hP
          have hD : va_D A [(mo, .inr (7, [.ref mo_st, .ref mo_at, .ref mo_isKept, .int (nI mo_pe), .int (nI mo_hm), .ref mo_draft, .int (nI mo_dp), .int (nI mo_dh), .int mo_toldLines, .int mo_highest, .ref mo_tape, .int (nI mo_tl), .int (nI mo_ps), .int (nI mo_fr), .int mo_sort, .int mo_value, .int (nI mo_ft), .int mo_wrongAt, .ref mo_row, .int mo_orderMany, .int (nI mo_fo), .int mo_lightest, .int mo_heaviest, .ref mo_before, .long mo_justSum, .long mo_toldSum, .long mo_allWays, .ref mo_lanes, .ref mo_sizes, .ref mo_cells, .int mo_torn, .ref mo_had])), (mo_st, .inl (k 0, 132, .inl (upd (upd sf ((nI (26 + (3 * c4))).toNatClampNeg) (nI j_5)) ((nI ((26 + (3 * c4)) + 1)).toNatClampNeg) kk)))] := hD
          refine lv_aload_n hx hb dX8_see_77 rfl (lv_at hl 1 rfl) ?_
          refine va_get (D := D) (ci := 7) (v := .ref mo_st) (C := RX8) (T := TX8) (N := 32) hx hb hts hiX8 hown hK hP 0 rfl rfl 0 (by decide) fl7 (fun _ h9 => h9) rfl dX8_see_78 ?_
          refine lv_iload hx hb dX8_see_81 (lv_at hl 0 rfl) ?_
          refine lv_iconst (v := 2) hx hb dX8_see_83 (by decide) ?_
          refine lv_iadd hx hb dX8_see_84 ?_
          refine hs_topi (nI ((26 + (3 * c4)) + 2)) (nI_add ((26 + (3 * c4))) (2)) ?_
          refine lv_iload_n hx hb dX8_see_85 rfl (lv_at hl 4 rfl) ?_
          refine va_iast hx hb hK hP hD hS 1 0 rfl rfl (vp_in_nI (show ((26 + (3 * c4)) + 2) < 132 by omega) (by decide)) dX8_see_86 (fun H locs hP hD hS => ?_)
          have hP : va_P D vwCl [(mo, .inr (7, [.ref mo_st, .ref mo_at, .ref mo_isKept, .int (nI mo_pe), .int (nI mo_hm), .ref mo_draft, .int (nI mo_dp), .int (nI mo_dh), .int mo_toldLines, .int mo_highest, .ref mo_tape, .int (nI mo_tl), .int (nI mo_ps), .int (nI mo_fr), .int mo_sort, .int mo_value, .int (nI mo_ft), .int mo_wrongAt, .ref mo_row, .int mo_orderMany, .int (nI mo_fo), .int mo_lightest, .int mo_heaviest, .ref mo_before, .long mo_justSum, .long mo_toldSum, .long mo_allWays, .ref mo_lanes, .ref mo_sizes, .ref mo_cells, .int mo_torn, .ref mo_had])), (mo_st, .inl (k 0, 132, .inl (upd (upd (upd sf ((nI (26 + (3 * c4))).toNatClampNeg) (nI j_5)) ((nI ((26 + (3 * c4)) + 1)).toNatClampNeg) kk) ((nI ((26 + (3 * c4)) + 2)).toNatClampNeg) fo)))] H := hP
          have hD : va_D A [(mo, .inr (7, [.ref mo_st, .ref mo_at, .ref mo_isKept, .int (nI mo_pe), .int (nI mo_hm), .ref mo_draft, .int (nI mo_dp), .int (nI mo_dh), .int mo_toldLines, .int mo_highest, .ref mo_tape, .int (nI mo_tl), .int (nI mo_ps), .int (nI mo_fr), .int mo_sort, .int mo_value, .int (nI mo_ft), .int mo_wrongAt, .ref mo_row, .int mo_orderMany, .int (nI mo_fo), .int mo_lightest, .int mo_heaviest, .ref mo_before, .long mo_justSum, .long mo_toldSum, .long mo_allWays, .ref mo_lanes, .ref mo_sizes, .ref mo_cells, .int mo_torn, .ref mo_had])), (mo_st, .inl (k 0, 132, .inl (upd (upd (upd sf ((nI (26 + (3 * c4))).toNatClampNeg) (nI j_5)) ((nI ((26 + (3 * c4)) + 1)).toNatClampNeg) kk) ((nI ((26 + (3 * c4)) + 2)).toNatClampNeg) fo)))] := hD
          refine lv_aload_n hx hb dX8_see_87 rfl (lv_at hl 1 rfl) ?_
          refine va_get (D := D) (ci := 7) (v := .ref mo_st) (C := RX8) (T := TX8) (N := 32) hx hb hts hiX8 hown hK hP 0 rfl rfl 0 (by decide) fl7 (fun _ h9 => h9) rfl dX8_see_88 ?_
          refine lv_bipush (v := 25) hx hb dX8_see_91 (by decide) ?_
          refine lv_dup2_11 hx hb dX8_see_93 rfl rfl ?_
          refine va_iald hx hb hK hP 1 0 rfl rfl (hs_in (by decide)) dX8_see_94 ?_
          refine hs_topi (nI c4) ((hs_uc (q := 25) (by omega) (by omega)).trans ((hs_uc (q := 25) (by omega) (by omega)).trans ((hs_uc (q := 25) (by omega) (by omega)).trans e4))) ?_
          refine lv_iconst (v := 1) hx hb dX8_see_95 (by decide) ?_
          refine lv_iadd hx hb dX8_see_96 ?_
          refine hs_topi (nI (c4 + 1)) (nI_add (c4) (1)) ?_
          refine va_iast hx hb hK hP hD hS 1 0 rfl rfl (hs_in (by decide)) dX8_see_97 (fun H locs hP hD hS => ?_)
          have hP : va_P D vwCl [(mo, .inr (7, [.ref mo_st, .ref mo_at, .ref mo_isKept, .int (nI mo_pe), .int (nI mo_hm), .ref mo_draft, .int (nI mo_dp), .int (nI mo_dh), .int mo_toldLines, .int mo_highest, .ref mo_tape, .int (nI mo_tl), .int (nI mo_ps), .int (nI mo_fr), .int mo_sort, .int mo_value, .int (nI mo_ft), .int mo_wrongAt, .ref mo_row, .int mo_orderMany, .int (nI mo_fo), .int mo_lightest, .int mo_heaviest, .ref mo_before, .long mo_justSum, .long mo_toldSum, .long mo_allWays, .ref mo_lanes, .ref mo_sizes, .ref mo_cells, .int mo_torn, .ref mo_had])), (mo_st, .inl (k 0, 132, .inl (upd (upd (upd (upd sf ((nI (26 + (3 * c4))).toNatClampNeg) (nI j_5)) ((nI ((26 + (3 * c4)) + 1)).toNatClampNeg) kk) ((nI ((26 + (3 * c4)) + 2)).toNatClampNeg) fo) 25 (nI (c4 + 1)))))] H := hP
          have hD : va_D A [(mo, .inr (7, [.ref mo_st, .ref mo_at, .ref mo_isKept, .int (nI mo_pe), .int (nI mo_hm), .ref mo_draft, .int (nI mo_dp), .int (nI mo_dh), .int mo_toldLines, .int mo_highest, .ref mo_tape, .int (nI mo_tl), .int (nI mo_ps), .int (nI mo_fr), .int mo_sort, .int mo_value, .int (nI mo_ft), .int mo_wrongAt, .ref mo_row, .int mo_orderMany, .int (nI mo_fo), .int mo_lightest, .int mo_heaviest, .ref mo_before, .long mo_justSum, .long mo_toldSum, .long mo_allWays, .ref mo_lanes, .ref mo_sizes, .ref mo_cells, .int mo_torn, .ref mo_had])), (mo_st, .inl (k 0, 132, .inl (upd (upd (upd (upd sf ((nI (26 + (3 * c4))).toNatClampNeg) (nI j_5)) ((nI ((26 + (3 * c4)) + 1)).toNatClampNeg) kk) ((nI ((26 + (3 * c4)) + 2)).toNatClampNeg) fo) 25 (nI (c4 + 1)))))] := hD
          refine lv_aload_n hx hb dX8_see_98 rfl (lv_at hl 1 rfl) ?_
          refine va_get (D := D) (ci := 7) (v := .ref mo_st) (C := RX8) (T := TX8) (N := 32) hx hb hts hiX8 hown hK hP 0 rfl rfl 0 (by decide) fl7 (fun _ h9 => h9) rfl dX8_see_99 ?_
          refine lv_bipush (v := 25) hx hb dX8_see_102 (by decide) ?_
          refine va_iald hx hb hK hP 1 0 rfl rfl (hs_in (by decide)) dX8_see_104 ?_
          refine hs_topi (nI (c4 + 1)) (by first | rfl | decide +kernel) ?_
          exact hs_iret hx hb hr hlocks hK hP hD hS (upd (upd (upd (upd sf ((nI (26 + (3 * c4))).toNatClampNeg) (nI j_5)) ((nI ((26 + (3 * c4)) + 1)).toNatClampNeg) kk) ((nI ((26 + (3 * c4)) + 2)).toNatClampNeg) fo) 25 (nI (c4 + 1)), c4 + 1) [0, 1] rfl (by decide) dX8_see_105 (⟨fun q hq => by (try dsimp only); rw [hs_un (by omega), hs_uc (by omega) (by omega), hs_uc (by omega) (by omega), hs_uc (by omega) (by omega)], (by (try dsimp only); exact hs_uq rfl), by (try dsimp only); omega, hs_seen (by omega) (by omega) hsaw⟩)
        · have nc_14 : c4 = 6 := (nI_eq (a := c4) (b := 6) (by omega) (by omega)).mp c_14
          refine lv_bipush (v := (-3)) hx hb dX8_see_42 (by decide) ?_
          exact hs_iret hx hb hr hlocks hK hP hD hS (sf, c4) [0, 1] rfl (by decide) dX8_see_44 (⟨fun _ _ => rfl, e4, h4, hsaw⟩)
      · refine lv_iconst (v := (-1)) hx hb dX8_see_28 (by decide) ?_
        exact hs_iret hx hb hr hlocks hK hP hD hS (sf, c4) [0, 1] rfl (by decide) dX8_see_29 (⟨fun _ _ => rfl, e4, h4, hsaw⟩)

set_option maxHeartbeats 4000000 in
set_option maxRecDepth 100000 in
theorem gm_copies (l : Launch) (D : va_G) (k : Nat → ClassId) (sz : Nat) (mo : Nat) (mo_st : Nat) (mo_at : Nat) (mo_isKept : Nat) (mo_pe : Nat) (mo_hm : Nat) (mo_draft : Nat) (mo_dp : Nat) (mo_dh : Nat) (mo_toldLines : Int32) (mo_highest : Int32) (mo_tape : Nat) (mo_tl : Nat) (mo_ps : Nat) (mo_fr : Nat) (mo_sort : Int32) (mo_value : Int32) (mo_ft : Nat) (mo_wrongAt : Int32) (mo_row : Nat) (mo_orderMany : Int32) (mo_fo : Nat) (mo_lightest : Int32) (mo_heaviest : Int32) (mo_before : Nat) (mo_justSum : Int64) (mo_toldSum : Int64) (mo_allWays : Int64) (mo_lanes : Nat) (mo_sizes : Nat) (mo_cells : Nat) (mo_torn : Int32) (mo_had : Nat) (sf : Nat → Int32) (to : Nat) (so : Nat) (hto : to + 44 ≤ 132) (hso : so + 44 ≤ 132) (hdj : to + 44 ≤ so ∨ so + 44 ≤ to) : MV l yX8_copies wsX8_copies ({ frames := 0, cells := 0, slots := 0, locals := 0 }) D k [.ref mo, .int (nI to), .int (nI so)] [(mo, .inr (7, [.ref mo_st, .ref mo_at, .ref mo_isKept, .int (nI mo_pe), .int (nI mo_hm), .ref mo_draft, .int (nI mo_dp), .int (nI mo_dh), .int mo_toldLines, .int mo_highest, .ref mo_tape, .int (nI mo_tl), .int (nI mo_ps), .int (nI mo_fr), .int mo_sort, .int mo_value, .int (nI mo_ft), .int mo_wrongAt, .ref mo_row, .int mo_orderMany, .int (nI mo_fo), .int mo_lightest, .int mo_heaviest, .ref mo_before, .long mo_justSum, .long mo_toldSum, .long mo_allWays, .ref mo_lanes, .ref mo_sizes, .ref mo_cells, .int mo_torn, .ref mo_had])), (mo_st, .inl (k 0, 132, .inl (sf)))] sz (fun (u : Nat → Int32) => (∀ q, q < 44 → u (to + q) = sf (so + q)) ∧ ∀ q, ¬ (to ≤ q ∧ q < to + 44) → u q = sf q) (fun (u : Nat → Int32) => [(mo, .inr (7, [.ref mo_st, .ref mo_at, .ref mo_isKept, .int (nI mo_pe), .int (nI mo_hm), .ref mo_draft, .int (nI mo_dp), .int (nI mo_dh), .int mo_toldLines, .int mo_highest, .ref mo_tape, .int (nI mo_tl), .int (nI mo_ps), .int (nI mo_fr), .int mo_sort, .int mo_value, .int (nI mo_ft), .int mo_wrongAt, .ref mo_row, .int mo_orderMany, .int (nI mo_fo), .int mo_lightest, .int mo_heaviest, .ref mo_before, .long mo_justSum, .long mo_toldSum, .long mo_allWays, .ref mo_lanes, .ref mo_sizes, .ref mo_cells, .int mo_torn, .ref mo_had])), (mo_st, .inl (k 0, 132, .inl (u)))]) := by
  refine Met.ofW (cc := cX8_copies) (maxL := 4) (ret := none) (by decide) rfl ?_
  intro p e s m args below meth c s₁ B hml hv
  obtain ⟨rfl, hsz, hP, hK, hD0, hN⟩ := hv
  have hx := B.exec
  have hb := B.bytes
  have hr := B.returns
  have hlocks := B.notSynchronized
  have hts := atoms_spec (ws := wsX8_copies) B.pre
  have hown : s.vm.findClass RX8 = some m.cls := findClass_of_methodNamed B.named
  have hiX8 : ∀ w ∈ u_ws RX8 TX8 32, w ∈ wsX8_copies := by decide +kernel
  have fl7 := hts (.fieldLink RX8 7 "HalfScalesModel" "st" "[I") (by decide +kernel)
  subst hsz
  have hD := hD0.self (sz := s.heap.size)
  generalize hAe : va_A [(mo, .inr (7, [.ref mo_st, .ref mo_at, .ref mo_isKept, .int (nI mo_pe), .int (nI mo_hm), .ref mo_draft, .int (nI mo_dp), .int (nI mo_dh), .int mo_toldLines, .int mo_highest, .ref mo_tape, .int (nI mo_tl), .int (nI mo_ps), .int (nI mo_fr), .int mo_sort, .int mo_value, .int (nI mo_ft), .int mo_wrongAt, .ref mo_row, .int mo_orderMany, .int (nI mo_fo), .int mo_lightest, .int mo_heaviest, .ref mo_before, .long mo_justSum, .long mo_toldSum, .long mo_allWays, .ref mo_lanes, .ref mo_sizes, .ref mo_cells, .int mo_torn, .ref mo_had])), (mo_st, .inl (k 0, 132, .inl (sf)))] s.heap.size = A at hD ⊢
  have hA : ∀ q : Nat, s.heap.size ≤ q → A q := fun q h => by rw [← hAe]; exact Or.inr h
  have hS : va_S A s.heap s.heap [] := va_S.rf
  have hl := lv_entry ([.ref mo, .int (nI to), .int (nI so)]) (n := 4) (Nat.le_of_ble_eq_true rfl)
  rw [lg_entry_eq]
  generalize (lg_sl ([.ref mo, .int (nI to), .int (nI so)]) ++ List.replicate (4 - (lg_sl ([.ref mo, .int (nI to), .int (nI so)])).length) Slot.unset).toArray = ls at hl ⊢
  have hl : lv_has ls 4 [(0, .ref mo), (1, .int (nI to)), (2, .int (nI so))] := hl
  have hP : va_P D vwCl [(mo, .inr (7, [.ref mo_st, .ref mo_at, .ref mo_isKept, .int (nI mo_pe), .int (nI mo_hm), .ref mo_draft, .int (nI mo_dp), .int (nI mo_dh), .int mo_toldLines, .int mo_highest, .ref mo_tape, .int (nI mo_tl), .int (nI mo_ps), .int (nI mo_fr), .int mo_sort, .int mo_value, .int (nI mo_ft), .int mo_wrongAt, .ref mo_row, .int mo_orderMany, .int (nI mo_fo), .int mo_lightest, .int mo_heaviest, .ref mo_before, .long mo_justSum, .long mo_toldSum, .long mo_allWays, .ref mo_lanes, .ref mo_sizes, .ref mo_cells, .int mo_torn, .ref mo_had])), (mo_st, .inl (k 0, 132, .inl (sf)))] s.heap := hP
  refine lv_iconst (v := 0) hx hb dX8_copies_0 (by decide) ?_
  refine lv_istore_n (lv' := [(3, .int 0), (0, .ref mo), (1, .int (nI to)), (2, .int (nI so))]) hx hb dX8_copies_1 rfl hl (by decide) rfl (fun ls hl => ?_)
  refine hs_while (σ := Nat × (Nat → Int32)) (fun x => x.1 ≤ 44 ∧ (∀ q, q < x.1 → x.2 (to + q) = sf (so + q)) ∧ ∀ q, ¬ (to ≤ q ∧ q < to + 44) → x.2 q = sf q) (fun x => 44 - x.1) (fun x => [(mo, .inr (7, [.ref mo_st, .ref mo_at, .ref mo_isKept, .int (nI mo_pe), .int (nI mo_hm), .ref mo_draft, .int (nI mo_dp), .int (nI mo_dh), .int mo_toldLines, .int mo_highest, .ref mo_tape, .int (nI mo_tl), .int (nI mo_ps), .int (nI mo_fr), .int mo_sort, .int mo_value, .int (nI mo_ft), .int mo_wrongAt, .ref mo_row, .int mo_orderMany, .int (nI mo_fo), .int mo_lightest, .int mo_heaviest, .ref mo_before, .long mo_justSum, .long mo_toldSum, .long mo_allWays, .ref mo_lanes, .ref mo_sizes, .ref mo_cells, .int mo_torn, .ref mo_had])), (mo_st, .inl (k 0, 132, .inl ((x.2))))]) (fun x => [(3, .int (nI (x.1))), (0, .ref mo), (1, .int (nI to)), (2, .int (nI so))]) ?_ (0, sf) ?_ hP hD hS hl
  · intro x hI ih2 H locs ls hP hD hS hl
    obtain ⟨i, g⟩ := x
    try dsimp only at hI
    have hP : va_P D vwCl [(mo, .inr (7, [.ref mo_st, .ref mo_at, .ref mo_isKept, .int (nI mo_pe), .int (nI mo_hm), .ref mo_draft, .int (nI mo_dp), .int (nI mo_dh), .int mo_toldLines, .int mo_highest, .ref mo_tape, .int (nI mo_tl), .int (nI mo_ps), .int (nI mo_fr), .int mo_sort, .int mo_value, .int (nI mo_ft), .int mo_wrongAt, .ref mo_row, .int mo_orderMany, .int (nI mo_fo), .int mo_lightest, .int mo_heaviest, .ref mo_before, .long mo_justSum, .long mo_toldSum, .long mo_allWays, .ref mo_lanes, .ref mo_sizes, .ref mo_cells, .int mo_torn, .ref mo_had])), (mo_st, .inl (k 0, 132, .inl (g)))] H := hP
    have hD : va_D A [(mo, .inr (7, [.ref mo_st, .ref mo_at, .ref mo_isKept, .int (nI mo_pe), .int (nI mo_hm), .ref mo_draft, .int (nI mo_dp), .int (nI mo_dh), .int mo_toldLines, .int mo_highest, .ref mo_tape, .int (nI mo_tl), .int (nI mo_ps), .int (nI mo_fr), .int mo_sort, .int mo_value, .int (nI mo_ft), .int mo_wrongAt, .ref mo_row, .int mo_orderMany, .int (nI mo_fo), .int mo_lightest, .int mo_heaviest, .ref mo_before, .long mo_justSum, .long mo_toldSum, .long mo_allWays, .ref mo_lanes, .ref mo_sizes, .ref mo_cells, .int mo_torn, .ref mo_had])), (mo_st, .inl (k 0, 132, .inl (g)))] := hD
    have hl : lv_has ls 4 [(3, .int (nI i)), (0, .ref mo), (1, .int (nI to)), (2, .int (nI so))] := hl
    refine lv_iload_n hx hb dX8_copies_2 rfl (lv_at hl 0 rfl) ?_
    refine lv_bipush (v := 44) hx hb dX8_copies_3 (by decide) ?_
    refine lv_icmp_ge (tgt := 30) hx hb dX8_copies_5 (by decide) (fun c_1 => ?_) (fun c_1 => ?_)
    · have nc_1 : 44 ≤ i := (nI_leI (a := 44) (b := i) (by omega) (by omega)).mp c_1
      exact hs_vret hx hb hr hlocks hK hP hD hS g [0, 1] rfl (by decide) dX8_copies_30 (⟨fun q hq => hI.2.1 q (by omega), hI.2.2⟩)
    · have nc_1 : ¬ 44 ≤ i := fun hq9 => c_1 ((nI_leI (a := 44) (b := i) (by omega) (by omega)).mpr hq9)
      refine lv_aload_n hx hb dX8_copies_8 rfl (lv_at hl 1 rfl) ?_
      refine va_get (D := D) (ci := 7) (v := .ref mo_st) (C := RX8) (T := TX8) (N := 32) hx hb hts hiX8 hown hK hP 0 rfl rfl 0 (by decide) fl7 (fun _ h9 => h9) rfl dX8_copies_9 ?_
      refine lv_iload_n hx hb dX8_copies_12 rfl (lv_at hl 2 rfl) ?_
      refine lv_iload_n hx hb dX8_copies_13 rfl (lv_at hl 0 rfl) ?_
      refine lv_iadd hx hb dX8_copies_14 ?_
      refine hs_topi (nI (to + i)) (nI_add (to) (i)) ?_
      refine lv_aload_n hx hb dX8_copies_15 rfl (lv_at hl 1 rfl) ?_
      refine va_get (D := D) (ci := 7) (v := .ref mo_st) (C := RX8) (T := TX8) (N := 32) hx hb hts hiX8 hown hK hP 0 rfl rfl 0 (by decide) fl7 (fun _ h9 => h9) rfl dX8_copies_16 ?_
      refine lv_iload_n hx hb dX8_copies_19 rfl (lv_at hl 3 rfl) ?_
      refine lv_iload_n hx hb dX8_copies_20 rfl (lv_at hl 0 rfl) ?_
      refine lv_iadd hx hb dX8_copies_21 ?_
      refine hs_topi (nI (so + i)) (nI_add (so) (i)) ?_
      refine va_iald hx hb hK hP 1 0 rfl rfl (vp_in_nI (show (so + i) < 132 by omega) (by decide)) dX8_copies_22 ?_
      refine hs_topi (sf (so + i)) (by rw [nI_clamp (by omega)]; exact hI.2.2 (so + i) (by omega)) ?_
      refine va_iast hx hb hK hP hD hS 1 0 rfl rfl (vp_in_nI (show (to + i) < 132 by omega) (by decide)) dX8_copies_23 (fun H locs hP hD hS => ?_)
      have hP : va_P D vwCl [(mo, .inr (7, [.ref mo_st, .ref mo_at, .ref mo_isKept, .int (nI mo_pe), .int (nI mo_hm), .ref mo_draft, .int (nI mo_dp), .int (nI mo_dh), .int mo_toldLines, .int mo_highest, .ref mo_tape, .int (nI mo_tl), .int (nI mo_ps), .int (nI mo_fr), .int mo_sort, .int mo_value, .int (nI mo_ft), .int mo_wrongAt, .ref mo_row, .int mo_orderMany, .int (nI mo_fo), .int mo_lightest, .int mo_heaviest, .ref mo_before, .long mo_justSum, .long mo_toldSum, .long mo_allWays, .ref mo_lanes, .ref mo_sizes, .ref mo_cells, .int mo_torn, .ref mo_had])), (mo_st, .inl (k 0, 132, .inl (upd g ((nI (to + i)).toNatClampNeg) (sf (so + i)))))] H := hP
      have hD : va_D A [(mo, .inr (7, [.ref mo_st, .ref mo_at, .ref mo_isKept, .int (nI mo_pe), .int (nI mo_hm), .ref mo_draft, .int (nI mo_dp), .int (nI mo_dh), .int mo_toldLines, .int mo_highest, .ref mo_tape, .int (nI mo_tl), .int (nI mo_ps), .int (nI mo_fr), .int mo_sort, .int mo_value, .int (nI mo_ft), .int mo_wrongAt, .ref mo_row, .int mo_orderMany, .int (nI mo_fo), .int mo_lightest, .int mo_heaviest, .ref mo_before, .long mo_justSum, .long mo_toldSum, .long mo_allWays, .ref mo_lanes, .ref mo_sizes, .ref mo_cells, .int mo_torn, .ref mo_had])), (mo_st, .inl (k 0, 132, .inl (upd g ((nI (to + i)).toNatClampNeg) (sf (so + i)))))] := hD
      refine lv_iinc (v := nI (i + 1)) (lv' := [(3, .int (nI (i + 1))), (0, .ref mo), (1, .int (nI to)), (2, .int (nI so))]) hx hb dX8_copies_24 hl (k := 0) rfl (nI_add (i) 1) (by decide) rfl (fun ls hl => ?_)
      refine lv_goto (tgt := 2) hx hb dX8_copies_27 (by decide) ?_
      exact ih2 (i + 1, upd g ((nI (to + i)).toNatClampNeg) (sf (so + i))) (by (try dsimp only); exact ⟨by omega, fun q hq => if e9 : q = i then (by subst e9; exact (by (try dsimp only); exact hs_ue (by omega) rfl)) else (hs_uc (by omega) (by omega)).trans (hI.2.1 q (by omega)), fun q hq => by rw [hs_uc (by omega) (by omega)]; exact hI.2.2 q hq⟩) (by (try dsimp only); omega) _ _ _ hP hD hS (lv_sub hl [0, 1, 2, 3] rfl)
  · (try dsimp only); exact ⟨by omega, fun q hq => absurd hq (by omega), fun _ _ => rfl⟩

set_option maxHeartbeats 4000000 in
set_option maxRecDepth 100000 in
theorem gq_keep (l : Launch) (D : va_G) (k : Nat → ClassId) (sz : Nat) (mo : Nat) (mo_st : Nat) (mo_at : Nat) (mo_isKept : Nat) (mo_pe : Nat) (mo_hm : Nat) (mo_draft : Nat) (mo_dp : Nat) (mo_dh : Nat) (mo_toldLines : Int32) (mo_highest : Int32) (mo_tape : Nat) (mo_tl : Nat) (mo_ps : Nat) (mo_fr : Nat) (mo_sort : Int32) (mo_value : Int32) (mo_ft : Nat) (mo_wrongAt : Int32) (mo_row : Nat) (mo_orderMany : Int32) (mo_fo : Nat) (mo_lightest : Int32) (mo_heaviest : Int32) (mo_before : Nat) (mo_justSum : Int64) (mo_toldSum : Int64) (mo_allWays : Int64) (mo_lanes : Nat) (mo_sizes : Nat) (mo_cells : Nat) (mo_torn : Int32) (mo_had : Nat) (sf : Nat → Int32) (kf : Nat → Int32) (i : Int32)  : MI l yX8_keep wsX8_keep ({ frames := 1, cells := 0, slots := 0, locals := 25 }) D k [.ref mo, .int i] [(mo, .inr (7, [.ref mo_st, .ref mo_at, .ref mo_isKept, .int (nI mo_pe), .int (nI mo_hm), .ref mo_draft, .int (nI mo_dp), .int (nI mo_dh), .int mo_toldLines, .int mo_highest, .ref mo_tape, .int (nI mo_tl), .int (nI mo_ps), .int (nI mo_fr), .int mo_sort, .int mo_value, .int (nI mo_ft), .int mo_wrongAt, .ref mo_row, .int mo_orderMany, .int (nI mo_fo), .int mo_lightest, .int mo_heaviest, .ref mo_before, .long mo_justSum, .long mo_toldSum, .long mo_allWays, .ref mo_lanes, .ref mo_sizes, .ref mo_cells, .int mo_torn, .ref mo_had])), (mo_st, .inl (k 0, 132, .inl (sf))), (mo_isKept, .inl (k 2, 2, .inl (kf)))] sz (fun (r : Int32) (u : (Nat → Int32) × (Nat → Int32)) => (∀ q, q < 44 → u.1 q = sf q) ∧ ((∀ q, q < 44 → u.1 (44 + q) = sf q) ∨ ((∀ q, q < 44 → u.1 (44 + q) = sf (44 + q)) ∧ u.2 0 = kf 0)) ∧ ((∀ q, q < 44 → u.1 (88 + q) = sf q) ∨ ((∀ q, q < 44 → u.1 (88 + q) = sf (88 + q)) ∧ u.2 1 = kf 1))) (fun (u : (Nat → Int32) × (Nat → Int32)) => [(mo, .inr (7, [.ref mo_st, .ref mo_at, .ref mo_isKept, .int (nI mo_pe), .int (nI mo_hm), .ref mo_draft, .int (nI mo_dp), .int (nI mo_dh), .int mo_toldLines, .int mo_highest, .ref mo_tape, .int (nI mo_tl), .int (nI mo_ps), .int (nI mo_fr), .int mo_sort, .int mo_value, .int (nI mo_ft), .int mo_wrongAt, .ref mo_row, .int mo_orderMany, .int (nI mo_fo), .int mo_lightest, .int mo_heaviest, .ref mo_before, .long mo_justSum, .long mo_toldSum, .long mo_allWays, .ref mo_lanes, .ref mo_sizes, .ref mo_cells, .int mo_torn, .ref mo_had])), (mo_st, .inl (k 0, 132, .inl (u.1))), (mo_isKept, .inl (k 2, 2, .inl (u.2)))]) := by
  refine Met.ofW (cc := cX8_keep) (maxL := 3) (ret := (some .int)) (by decide) rfl ?_
  intro p e s m args below meth c s₁ B hml hv
  obtain ⟨rfl, hsz, hP, hK, hD0, hN⟩ := hv
  have hx := B.exec
  have hb := B.bytes
  have hr := B.returns
  have hlocks := B.notSynchronized
  have hts := atoms_spec (ws := wsX8_keep) B.pre
  have hown : s.vm.findClass RX8 = some m.cls := findClass_of_methodNamed B.named
  have hiX8 : ∀ w ∈ u_ws RX8 TX8 32, w ∈ wsX8_keep := by decide +kernel
  have fl16 := hts (.fieldLink RX8 16 "HalfScalesModel" "isKept" "[Z") (by decide +kernel)
  subst hsz
  have hD := hD0.self (sz := s.heap.size)
  generalize hAe : va_A [(mo, .inr (7, [.ref mo_st, .ref mo_at, .ref mo_isKept, .int (nI mo_pe), .int (nI mo_hm), .ref mo_draft, .int (nI mo_dp), .int (nI mo_dh), .int mo_toldLines, .int mo_highest, .ref mo_tape, .int (nI mo_tl), .int (nI mo_ps), .int (nI mo_fr), .int mo_sort, .int mo_value, .int (nI mo_ft), .int mo_wrongAt, .ref mo_row, .int mo_orderMany, .int (nI mo_fo), .int mo_lightest, .int mo_heaviest, .ref mo_before, .long mo_justSum, .long mo_toldSum, .long mo_allWays, .ref mo_lanes, .ref mo_sizes, .ref mo_cells, .int mo_torn, .ref mo_had])), (mo_st, .inl (k 0, 132, .inl (sf))), (mo_isKept, .inl (k 2, 2, .inl (kf)))] s.heap.size = A at hD ⊢
  have hA : ∀ q : Nat, s.heap.size ≤ q → A q := fun q h => by rw [← hAe]; exact Or.inr h
  have hS : va_S A s.heap s.heap [] := va_S.rf
  have hl := lv_entry ([.ref mo, .int i]) (n := 3) (Nat.le_of_ble_eq_true rfl)
  rw [lg_entry_eq]
  generalize (lg_sl ([.ref mo, .int i]) ++ List.replicate (3 - (lg_sl ([.ref mo, .int i])).length) Slot.unset).toArray = ls at hl ⊢
  have hl : lv_has ls 3 [(0, .ref mo), (1, .int i)] := hl
  have hP : va_P D vwCl [(mo, .inr (7, [.ref mo_st, .ref mo_at, .ref mo_isKept, .int (nI mo_pe), .int (nI mo_hm), .ref mo_draft, .int (nI mo_dp), .int (nI mo_dh), .int mo_toldLines, .int mo_highest, .ref mo_tape, .int (nI mo_tl), .int (nI mo_ps), .int (nI mo_fr), .int mo_sort, .int mo_value, .int (nI mo_ft), .int mo_wrongAt, .ref mo_row, .int mo_orderMany, .int (nI mo_fo), .int mo_lightest, .int mo_heaviest, .ref mo_before, .long mo_justSum, .long mo_toldSum, .long mo_allWays, .ref mo_lanes, .ref mo_sizes, .ref mo_cells, .int mo_torn, .ref mo_had])), (mo_st, .inl (k 0, 132, .inl (sf))), (mo_isKept, .inl (k 2, 2, .inl (kf)))] s.heap := hP
  refine lv_iload_n hx hb dX8_keep_0 rfl (lv_at hl 1 rfl) ?_
  refine lv_i2l hx hb dX8_keep_1 rfl ?_
  refine lv_lconst (v := 0) hx hb dX8_keep_2 (by decide) ?_
  refine lv_lconst (v := 1) hx hb dX8_keep_3 (by decide) ?_
  refine hs_pi (va_runS (As := [.long (((i) : Int32).toInt64), .long 0, .long 1]) (rest := []) ⟨hx, hb, hml, hown, hts⟩ (gm_in l D k _ i 0 1) (va_cwS 3 hts gX8_keep_X8_in rfl rfl rfl (by decide +kernel) ⟨Nat.le_of_ble_eq_true rfl, Nat.le_of_ble_eq_true rfl⟩) (hs_preS hK hN (hs_subP (w := []) hP [] rfl) (hD.sub (ws' := []) [] (by decide) rfl)) rfl rfl hl.1 rfl (lv_room (Nat.le_of_ble_eq_true rfl)) dX8_keep_4 ⟨Nat.le_of_ble_eq_true rfl, Nat.le_of_ble_eq_true rfl⟩) hP hD hS hA (fun r_1 u_3 H locs hw_2 hP hS => ?_)
  refine hs_topi (hsb (hsin i 0 1)) hw_2 ?_
  refine lv_if_ne (tgt := 12) hx hb dX8_keep_7 (by decide) (fun c_4 => ?_) (fun c_4 => ?_)
  · rcases hs_v01 (hs_nb c_4) with rfl | rfl
    · refine lv_aload_n hx hb dX8_keep_12 rfl (lv_at hl 0 rfl) ?_
      refine va_get (D := D) (ci := 7) (v := .ref mo_isKept) (C := RX8) (T := TX8) (N := 32) hx hb hts hiX8 hown hK hP 0 rfl rfl 2 (by decide) fl16 (fun _ h9 => h9) rfl dX8_keep_13 ?_
      refine lv_iload_n hx hb dX8_keep_16 rfl (lv_at hl 1 rfl) ?_
      refine va_zald hx hb hK hP 2 2 rfl rfl (hs_in (by decide)) dX8_keep_17 ?_
      refine hs_pi (va_runS (As := [.int (kf ((0 : Int32).toNatClampNeg))]) (rest := []) ⟨hx, hb, hml, hown, hts⟩ (gm_flag l D k _ (kf ((0 : Int32).toNatClampNeg))) (va_cwS 1 hts gX8_keep_X8_flag rfl rfl rfl (by decide +kernel) ⟨Nat.le_of_ble_eq_true rfl, Nat.le_of_ble_eq_true rfl⟩) (hs_preS hK hN (hs_subP (w := []) hP [] rfl) (hD.sub (ws' := []) [] (by decide) rfl)) rfl rfl hl.1 rfl (lv_room (Nat.le_of_ble_eq_true rfl)) dX8_keep_18 ⟨Nat.le_of_ble_eq_true rfl, Nat.le_of_ble_eq_true rfl⟩) hP hD hS hA (fun r_5 u_7 H locs hw_6 hP hS => ?_)
      refine lv_istore_n (lv' := [(2, .int r_5), (0, .ref mo), (1, .int 0)]) hx hb dX8_keep_21 rfl hl (by decide) rfl (fun ls hl => ?_)
      refine lv_aload_n hx hb dX8_keep_22 rfl (lv_at hl 1 rfl) ?_
      refine va_get (D := D) (ci := 7) (v := .ref mo_isKept) (C := RX8) (T := TX8) (N := 32) hx hb hts hiX8 hown hK hP 0 rfl rfl 2 (by decide) fl16 (fun _ h9 => h9) rfl dX8_keep_23 ?_
      refine lv_iload_n hx hb dX8_keep_26 rfl (lv_at hl 2 rfl) ?_
      refine lv_iconst (v := 1) hx hb dX8_keep_27 (by decide) ?_
      refine va_zast hx hb hK hP hD hS 2 2 rfl rfl (hs_in (by decide)) dX8_keep_28 (fun H locs hP hD hS => ?_)
      have hP : va_P D vwCl [(mo, .inr (7, [.ref mo_st, .ref mo_at, .ref mo_isKept, .int (nI mo_pe), .int (nI mo_hm), .ref mo_draft, .int (nI mo_dp), .int (nI mo_dh), .int mo_toldLines, .int mo_highest, .ref mo_tape, .int (nI mo_tl), .int (nI mo_ps), .int (nI mo_fr), .int mo_sort, .int mo_value, .int (nI mo_ft), .int mo_wrongAt, .ref mo_row, .int mo_orderMany, .int (nI mo_fo), .int mo_lightest, .int mo_heaviest, .ref mo_before, .long mo_justSum, .long mo_toldSum, .long mo_allWays, .ref mo_lanes, .ref mo_sizes, .ref mo_cells, .int mo_torn, .ref mo_had])), (mo_st, .inl (k 0, 132, .inl (sf))), (mo_isKept, .inl (k 2, 2, .inl (upd kf 0 1)))] H := hP
      have hD : va_D A [(mo, .inr (7, [.ref mo_st, .ref mo_at, .ref mo_isKept, .int (nI mo_pe), .int (nI mo_hm), .ref mo_draft, .int (nI mo_dp), .int (nI mo_dh), .int mo_toldLines, .int mo_highest, .ref mo_tape, .int (nI mo_tl), .int (nI mo_ps), .int (nI mo_fr), .int mo_sort, .int mo_value, .int (nI mo_ft), .int mo_wrongAt, .ref mo_row, .int mo_orderMany, .int (nI mo_fo), .int mo_lightest, .int mo_heaviest, .ref mo_before, .long mo_justSum, .long mo_toldSum, .long mo_allWays, .ref mo_lanes, .ref mo_sizes, .ref mo_cells, .int mo_torn, .ref mo_had])), (mo_st, .inl (k 0, 132, .inl (sf))), (mo_isKept, .inl (k 2, 2, .inl (upd kf 0 1)))] := hD
      refine lv_aload_n hx hb dX8_keep_29 rfl (lv_at hl 1 rfl) ?_
      refine lv_bipush (v := 44) hx hb dX8_keep_30 (by decide) ?_
      refine lv_iload_n hx hb dX8_keep_32 rfl (lv_at hl 2 rfl) ?_
      refine lv_iconst (v := 1) hx hb dX8_keep_33 (by decide) ?_
      refine lv_iadd hx hb dX8_keep_34 ?_
      refine hs_topi 1 (by first | rfl | decide +kernel) ?_
      refine lv_imul hx hb dX8_keep_35 ?_
      refine hs_topi 44 (by first | rfl | decide +kernel) ?_
      refine lv_iconst (v := 0) hx hb dX8_keep_36 (by decide) ?_
      refine hs_cv (va_runV (As := [.int 44, .int 0]) (rest := []) ⟨hx, hb, hml, hown, hts⟩ (gm_copies l D k _ mo mo_st mo_at mo_isKept mo_pe mo_hm mo_draft mo_dp mo_dh mo_toldLines mo_highest mo_tape mo_tl mo_ps mo_fr mo_sort mo_value mo_ft mo_wrongAt mo_row mo_orderMany mo_fo mo_lightest mo_heaviest mo_before mo_justSum mo_toldSum mo_allWays mo_lanes mo_sizes mo_cells mo_torn mo_had sf 44 0 (by decide) (by decide) (by decide)) (cwV 2 hts gX8_keep_X8_copies rfl rfl rfl (by decide +kernel) ⟨Nat.le_of_ble_eq_true rfl, Nat.le_of_ble_eq_true rfl⟩) (hs_preV hK hN (hs_subP (w := [(mo, .inr (7, [.ref mo_st, .ref mo_at, .ref mo_isKept, .int (nI mo_pe), .int (nI mo_hm), .ref mo_draft, .int (nI mo_dp), .int (nI mo_dh), .int mo_toldLines, .int mo_highest, .ref mo_tape, .int (nI mo_tl), .int (nI mo_ps), .int (nI mo_fr), .int mo_sort, .int mo_value, .int (nI mo_ft), .int mo_wrongAt, .ref mo_row, .int mo_orderMany, .int (nI mo_fo), .int mo_lightest, .int mo_heaviest, .ref mo_before, .long mo_justSum, .long mo_toldSum, .long mo_allWays, .ref mo_lanes, .ref mo_sizes, .ref mo_cells, .int mo_torn, .ref mo_had])), (mo_st, .inl (k 0, 132, .inl (sf)))]) hP [0, 1] rfl) (hD.sub (ws' := [(mo, .inr (7, [.ref mo_st, .ref mo_at, .ref mo_isKept, .int (nI mo_pe), .int (nI mo_hm), .ref mo_draft, .int (nI mo_dp), .int (nI mo_dh), .int mo_toldLines, .int mo_highest, .ref mo_tape, .int (nI mo_tl), .int (nI mo_ps), .int (nI mo_fr), .int mo_sort, .int mo_value, .int (nI mo_ft), .int mo_wrongAt, .ref mo_row, .int mo_orderMany, .int (nI mo_fo), .int mo_lightest, .int mo_heaviest, .ref mo_before, .long mo_justSum, .long mo_toldSum, .long mo_allWays, .ref mo_lanes, .ref mo_sizes, .ref mo_cells, .int mo_torn, .ref mo_had])), (mo_st, .inl (k 0, 132, .inl (sf)))]) [0, 1] (by decide) rfl) (ci := 7) (q0 := 0) rfl rfl) rfl rfl hl.1 rfl (lv_room (Nat.le_of_ble_eq_true rfl)) dX8_keep_37 ⟨Nat.le_of_ble_eq_true rfl, Nat.le_of_ble_eq_true rfl⟩) hP hD hS hA [0, 1] [2] [(mo_isKept, .inl (k 2, 2, .inl (upd kf 0 1)))] rfl rfl (by decide) (by decide) [1, 2, 0] (fun u_10 => [(mo, .inr (7, [.ref mo_st, .ref mo_at, .ref mo_isKept, .int (nI mo_pe), .int (nI mo_hm), .ref mo_draft, .int (nI mo_dp), .int (nI mo_dh), .int mo_toldLines, .int mo_highest, .ref mo_tape, .int (nI mo_tl), .int (nI mo_ps), .int (nI mo_fr), .int mo_sort, .int mo_value, .int (nI mo_ft), .int mo_wrongAt, .ref mo_row, .int mo_orderMany, .int (nI mo_fo), .int mo_lightest, .int mo_heaviest, .ref mo_before, .long mo_justSum, .long mo_toldSum, .long mo_allWays, .ref mo_lanes, .ref mo_sizes, .ref mo_cells, .int mo_torn, .ref mo_had])), (mo_st, .inl (k 0, 132, .inl (u_10))), (mo_isKept, .inl (k 2, 2, .inl (upd kf 0 1)))]) (fun _ => rfl) (by decide) (fun u_10 H locs hw_9 hP hD hS => ?_)
      have hP : va_P D vwCl [(mo, .inr (7, [.ref mo_st, .ref mo_at, .ref mo_isKept, .int (nI mo_pe), .int (nI mo_hm), .ref mo_draft, .int (nI mo_dp), .int (nI mo_dh), .int mo_toldLines, .int mo_highest, .ref mo_tape, .int (nI mo_tl), .int (nI mo_ps), .int (nI mo_fr), .int mo_sort, .int mo_value, .int (nI mo_ft), .int mo_wrongAt, .ref mo_row, .int mo_orderMany, .int (nI mo_fo), .int mo_lightest, .int mo_heaviest, .ref mo_before, .long mo_justSum, .long mo_toldSum, .long mo_allWays, .ref mo_lanes, .ref mo_sizes, .ref mo_cells, .int mo_torn, .ref mo_had])), (mo_st, .inl (k 0, 132, .inl (u_10))), (mo_isKept, .inl (k 2, 2, .inl (upd kf 0 1)))] H := hP
      have hD : va_D A [(mo, .inr (7, [.ref mo_st, .ref mo_at, .ref mo_isKept, .int (nI mo_pe), .int (nI mo_hm), .ref mo_draft, .int (nI mo_dp), .int (nI mo_dh), .int mo_toldLines, .int mo_highest, .ref mo_tape, .int (nI mo_tl), .int (nI mo_ps), .int (nI mo_fr), .int mo_sort, .int mo_value, .int (nI mo_ft), .int mo_wrongAt, .ref mo_row, .int mo_orderMany, .int (nI mo_fo), .int mo_lightest, .int mo_heaviest, .ref mo_before, .long mo_justSum, .long mo_toldSum, .long mo_allWays, .ref mo_lanes, .ref mo_sizes, .ref mo_cells, .int mo_torn, .ref mo_had])), (mo_st, .inl (k 0, 132, .inl (u_10))), (mo_isKept, .inl (k 2, 2, .inl (upd kf 0 1)))] := hD
      have hw_9 : (∀ q, q < 44 → u_10 (44 + q) = sf (0 + q)) ∧ ∀ q, ¬ (44 ≤ q ∧ q < 44 + 44) → u_10 q = sf q := hw_9
      refine lv_iload_n hx hb dX8_keep_40 rfl (lv_at hl 0 rfl) ?_
      exact hs_iret hx hb hr hlocks hK hP hD hS (u_10, upd kf 0 1) [0, 1, 2] rfl (by decide) dX8_keep_41 (⟨fun q hq => hw_9.2 q (by omega), Or.inl (fun q hq => (hw_9.1 q hq).trans (congrArg sf (Nat.zero_add q))), Or.inr ⟨fun q hq => hw_9.2 _ (by omega), rfl⟩⟩)
    · refine lv_aload_n hx hb dX8_keep_12 rfl (lv_at hl 0 rfl) ?_
      refine va_get (D := D) (ci := 7) (v := .ref mo_isKept) (C := RX8) (T := TX8) (N := 32) hx hb hts hiX8 hown hK hP 0 rfl rfl 2 (by decide) fl16 (fun _ h9 => h9) rfl dX8_keep_13 ?_
      refine lv_iload_n hx hb dX8_keep_16 rfl (lv_at hl 1 rfl) ?_
      refine va_zald hx hb hK hP 2 2 rfl rfl (hs_in (by decide)) dX8_keep_17 ?_
      refine hs_pi (va_runS (As := [.int (kf ((1 : Int32).toNatClampNeg))]) (rest := []) ⟨hx, hb, hml, hown, hts⟩ (gm_flag l D k _ (kf ((1 : Int32).toNatClampNeg))) (va_cwS 1 hts gX8_keep_X8_flag rfl rfl rfl (by decide +kernel) ⟨Nat.le_of_ble_eq_true rfl, Nat.le_of_ble_eq_true rfl⟩) (hs_preS hK hN (hs_subP (w := []) hP [] rfl) (hD.sub (ws' := []) [] (by decide) rfl)) rfl rfl hl.1 rfl (lv_room (Nat.le_of_ble_eq_true rfl)) dX8_keep_18 ⟨Nat.le_of_ble_eq_true rfl, Nat.le_of_ble_eq_true rfl⟩) hP hD hS hA (fun r_11 u_13 H locs hw_12 hP hS => ?_)
      refine lv_istore_n (lv' := [(2, .int r_11), (0, .ref mo), (1, .int 1)]) hx hb dX8_keep_21 rfl hl (by decide) rfl (fun ls hl => ?_)
      refine lv_aload_n hx hb dX8_keep_22 rfl (lv_at hl 1 rfl) ?_
      refine va_get (D := D) (ci := 7) (v := .ref mo_isKept) (C := RX8) (T := TX8) (N := 32) hx hb hts hiX8 hown hK hP 0 rfl rfl 2 (by decide) fl16 (fun _ h9 => h9) rfl dX8_keep_23 ?_
      refine lv_iload_n hx hb dX8_keep_26 rfl (lv_at hl 2 rfl) ?_
      refine lv_iconst (v := 1) hx hb dX8_keep_27 (by decide) ?_
      refine va_zast hx hb hK hP hD hS 2 2 rfl rfl (hs_in (by decide)) dX8_keep_28 (fun H locs hP hD hS => ?_)
      have hP : va_P D vwCl [(mo, .inr (7, [.ref mo_st, .ref mo_at, .ref mo_isKept, .int (nI mo_pe), .int (nI mo_hm), .ref mo_draft, .int (nI mo_dp), .int (nI mo_dh), .int mo_toldLines, .int mo_highest, .ref mo_tape, .int (nI mo_tl), .int (nI mo_ps), .int (nI mo_fr), .int mo_sort, .int mo_value, .int (nI mo_ft), .int mo_wrongAt, .ref mo_row, .int mo_orderMany, .int (nI mo_fo), .int mo_lightest, .int mo_heaviest, .ref mo_before, .long mo_justSum, .long mo_toldSum, .long mo_allWays, .ref mo_lanes, .ref mo_sizes, .ref mo_cells, .int mo_torn, .ref mo_had])), (mo_st, .inl (k 0, 132, .inl (sf))), (mo_isKept, .inl (k 2, 2, .inl (upd kf 1 1)))] H := hP
      have hD : va_D A [(mo, .inr (7, [.ref mo_st, .ref mo_at, .ref mo_isKept, .int (nI mo_pe), .int (nI mo_hm), .ref mo_draft, .int (nI mo_dp), .int (nI mo_dh), .int mo_toldLines, .int mo_highest, .ref mo_tape, .int (nI mo_tl), .int (nI mo_ps), .int (nI mo_fr), .int mo_sort, .int mo_value, .int (nI mo_ft), .int mo_wrongAt, .ref mo_row, .int mo_orderMany, .int (nI mo_fo), .int mo_lightest, .int mo_heaviest, .ref mo_before, .long mo_justSum, .long mo_toldSum, .long mo_allWays, .ref mo_lanes, .ref mo_sizes, .ref mo_cells, .int mo_torn, .ref mo_had])), (mo_st, .inl (k 0, 132, .inl (sf))), (mo_isKept, .inl (k 2, 2, .inl (upd kf 1 1)))] := hD
      refine lv_aload_n hx hb dX8_keep_29 rfl (lv_at hl 1 rfl) ?_
      refine lv_bipush (v := 44) hx hb dX8_keep_30 (by decide) ?_
      refine lv_iload_n hx hb dX8_keep_32 rfl (lv_at hl 2 rfl) ?_
      refine lv_iconst (v := 1) hx hb dX8_keep_33 (by decide) ?_
      refine lv_iadd hx hb dX8_keep_34 ?_
      refine hs_topi 2 (by first | rfl | decide +kernel) ?_
      refine lv_imul hx hb dX8_keep_35 ?_
      refine hs_topi 88 (by first | rfl | decide +kernel) ?_
      refine lv_iconst (v := 0) hx hb dX8_keep_36 (by decide) ?_
      refine hs_cv (va_runV (As := [.int 88, .int 0]) (rest := []) ⟨hx, hb, hml, hown, hts⟩ (gm_copies l D k _ mo mo_st mo_at mo_isKept mo_pe mo_hm mo_draft mo_dp mo_dh mo_toldLines mo_highest mo_tape mo_tl mo_ps mo_fr mo_sort mo_value mo_ft mo_wrongAt mo_row mo_orderMany mo_fo mo_lightest mo_heaviest mo_before mo_justSum mo_toldSum mo_allWays mo_lanes mo_sizes mo_cells mo_torn mo_had sf 88 0 (by decide) (by decide) (by decide)) (cwV 2 hts gX8_keep_X8_copies rfl rfl rfl (by decide +kernel) ⟨Nat.le_of_ble_eq_true rfl, Nat.le_of_ble_eq_true rfl⟩) (hs_preV hK hN (hs_subP (w := [(mo, .inr (7, [.ref mo_st, .ref mo_at, .ref mo_isKept, .int (nI mo_pe), .int (nI mo_hm), .ref mo_draft, .int (nI mo_dp), .int (nI mo_dh), .int mo_toldLines, .int mo_highest, .ref mo_tape, .int (nI mo_tl), .int (nI mo_ps), .int (nI mo_fr), .int mo_sort, .int mo_value, .int (nI mo_ft), .int mo_wrongAt, .ref mo_row, .int mo_orderMany, .int (nI mo_fo), .int mo_lightest, .int mo_heaviest, .ref mo_before, .long mo_justSum, .long mo_toldSum, .long mo_allWays, .ref mo_lanes, .ref mo_sizes, .ref mo_cells, .int mo_torn, .ref mo_had])), (mo_st, .inl (k 0, 132, .inl (sf)))]) hP [0, 1] rfl) (hD.sub (ws' := [(mo, .inr (7, [.ref mo_st, .ref mo_at, .ref mo_isKept, .int (nI mo_pe), .int (nI mo_hm), .ref mo_draft, .int (nI mo_dp), .int (nI mo_dh), .int mo_toldLines, .int mo_highest, .ref mo_tape, .int (nI mo_tl), .int (nI mo_ps), .int (nI mo_fr), .int mo_sort, .int mo_value, .int (nI mo_ft), .int mo_wrongAt, .ref mo_row, .int mo_orderMany, .int (nI mo_fo), .int mo_lightest, .int mo_heaviest, .ref mo_before, .long mo_justSum, .long mo_toldSum, .long mo_allWays, .ref mo_lanes, .ref mo_sizes, .ref mo_cells, .int mo_torn, .ref mo_had])), (mo_st, .inl (k 0, 132, .inl (sf)))]) [0, 1] (by decide) rfl) (ci := 7) (q0 := 0) rfl rfl) rfl rfl hl.1 rfl (lv_room (Nat.le_of_ble_eq_true rfl)) dX8_keep_37 ⟨Nat.le_of_ble_eq_true rfl, Nat.le_of_ble_eq_true rfl⟩) hP hD hS hA [0, 1] [2] [(mo_isKept, .inl (k 2, 2, .inl (upd kf 1 1)))] rfl rfl (by decide) (by decide) [1, 2, 0] (fun u_16 => [(mo, .inr (7, [.ref mo_st, .ref mo_at, .ref mo_isKept, .int (nI mo_pe), .int (nI mo_hm), .ref mo_draft, .int (nI mo_dp), .int (nI mo_dh), .int mo_toldLines, .int mo_highest, .ref mo_tape, .int (nI mo_tl), .int (nI mo_ps), .int (nI mo_fr), .int mo_sort, .int mo_value, .int (nI mo_ft), .int mo_wrongAt, .ref mo_row, .int mo_orderMany, .int (nI mo_fo), .int mo_lightest, .int mo_heaviest, .ref mo_before, .long mo_justSum, .long mo_toldSum, .long mo_allWays, .ref mo_lanes, .ref mo_sizes, .ref mo_cells, .int mo_torn, .ref mo_had])), (mo_st, .inl (k 0, 132, .inl (u_16))), (mo_isKept, .inl (k 2, 2, .inl (upd kf 1 1)))]) (fun _ => rfl) (by decide) (fun u_16 H locs hw_15 hP hD hS => ?_)
      have hP : va_P D vwCl [(mo, .inr (7, [.ref mo_st, .ref mo_at, .ref mo_isKept, .int (nI mo_pe), .int (nI mo_hm), .ref mo_draft, .int (nI mo_dp), .int (nI mo_dh), .int mo_toldLines, .int mo_highest, .ref mo_tape, .int (nI mo_tl), .int (nI mo_ps), .int (nI mo_fr), .int mo_sort, .int mo_value, .int (nI mo_ft), .int mo_wrongAt, .ref mo_row, .int mo_orderMany, .int (nI mo_fo), .int mo_lightest, .int mo_heaviest, .ref mo_before, .long mo_justSum, .long mo_toldSum, .long mo_allWays, .ref mo_lanes, .ref mo_sizes, .ref mo_cells, .int mo_torn, .ref mo_had])), (mo_st, .inl (k 0, 132, .inl (u_16))), (mo_isKept, .inl (k 2, 2, .inl (upd kf 1 1)))] H := hP
      have hD : va_D A [(mo, .inr (7, [.ref mo_st, .ref mo_at, .ref mo_isKept, .int (nI mo_pe), .int (nI mo_hm), .ref mo_draft, .int (nI mo_dp), .int (nI mo_dh), .int mo_toldLines, .int mo_highest, .ref mo_tape, .int (nI mo_tl), .int (nI mo_ps), .int (nI mo_fr), .int mo_sort, .int mo_value, .int (nI mo_ft), .int mo_wrongAt, .ref mo_row, .int mo_orderMany, .int (nI mo_fo), .int mo_lightest, .int mo_heaviest, .ref mo_before, .long mo_justSum, .long mo_toldSum, .long mo_allWays, .ref mo_lanes, .ref mo_sizes, .ref mo_cells, .int mo_torn, .ref mo_had])), (mo_st, .inl (k 0, 132, .inl (u_16))), (mo_isKept, .inl (k 2, 2, .inl (upd kf 1 1)))] := hD
      have hw_15 : (∀ q, q < 44 → u_16 (88 + q) = sf (0 + q)) ∧ ∀ q, ¬ (88 ≤ q ∧ q < 88 + 44) → u_16 q = sf q := hw_15
      refine lv_iload_n hx hb dX8_keep_40 rfl (lv_at hl 0 rfl) ?_
      exact hs_iret hx hb hr hlocks hK hP hD hS (u_16, upd kf 1 1) [0, 1, 2] rfl (by decide) dX8_keep_41 (⟨fun q hq => hw_15.2 q (by omega), Or.inr ⟨fun q hq => hw_15.2 _ (by omega), rfl⟩, Or.inl (fun q hq => (hw_15.1 q hq).trans (congrArg sf (Nat.zero_add q)))⟩)
  · refine lv_iconst (v := (-1)) hx hb dX8_keep_10 (by decide) ?_
    exact hs_iret hx hb hr hlocks hK hP hD hS (sf, kf) [0, 1, 2] rfl (by decide) dX8_keep_11 (⟨fun _ _ => rfl, Or.inr ⟨fun _ _ => rfl, rfl⟩, Or.inr ⟨fun _ _ => rfl, rfl⟩⟩)

set_option maxHeartbeats 4000000 in
set_option maxRecDepth 100000 in
theorem gq_back (l : Launch) (D : va_G) (k : Nat → ClassId) (sz : Nat) (mo : Nat) (mo_st : Nat) (mo_at : Nat) (mo_isKept : Nat) (mo_pe : Nat) (mo_hm : Nat) (mo_draft : Nat) (mo_dp : Nat) (mo_dh : Nat) (mo_toldLines : Int32) (mo_highest : Int32) (mo_tape : Nat) (mo_tl : Nat) (mo_ps : Nat) (mo_fr : Nat) (mo_sort : Int32) (mo_value : Int32) (mo_ft : Nat) (mo_wrongAt : Int32) (mo_row : Nat) (mo_orderMany : Int32) (mo_fo : Nat) (mo_lightest : Int32) (mo_heaviest : Int32) (mo_before : Nat) (mo_justSum : Int64) (mo_toldSum : Int64) (mo_allWays : Int64) (mo_lanes : Nat) (mo_sizes : Nat) (mo_cells : Nat) (mo_torn : Int32) (mo_had : Nat) (sf : Nat → Int32) (kf : Nat → Int32) (i : Int32)  : MI l yX8_back wsX8_back ({ frames := 1, cells := 0, slots := 0, locals := 25 }) D k [.ref mo, .int i] [(mo, .inr (7, [.ref mo_st, .ref mo_at, .ref mo_isKept, .int (nI mo_pe), .int (nI mo_hm), .ref mo_draft, .int (nI mo_dp), .int (nI mo_dh), .int mo_toldLines, .int mo_highest, .ref mo_tape, .int (nI mo_tl), .int (nI mo_ps), .int (nI mo_fr), .int mo_sort, .int mo_value, .int (nI mo_ft), .int mo_wrongAt, .ref mo_row, .int mo_orderMany, .int (nI mo_fo), .int mo_lightest, .int mo_heaviest, .ref mo_before, .long mo_justSum, .long mo_toldSum, .long mo_allWays, .ref mo_lanes, .ref mo_sizes, .ref mo_cells, .int mo_torn, .ref mo_had])), (mo_st, .inl (k 0, 132, .inl (sf))), (mo_isKept, .inl (k 2, 2, .inl (kf)))] sz (fun (r : Int32) (u : Nat → Int32) => (∀ q, 44 ≤ q → u q = sf q) ∧ ((∀ q, q < 44 → u q = sf q) ∨ (¬ kf 0 = 0 ∧ ∀ q, q < 44 → u q = sf (44 + q)) ∨ (¬ kf 1 = 0 ∧ ∀ q, q < 44 → u q = sf (88 + q)))) (fun (u : Nat → Int32) => [(mo, .inr (7, [.ref mo_st, .ref mo_at, .ref mo_isKept, .int (nI mo_pe), .int (nI mo_hm), .ref mo_draft, .int (nI mo_dp), .int (nI mo_dh), .int mo_toldLines, .int mo_highest, .ref mo_tape, .int (nI mo_tl), .int (nI mo_ps), .int (nI mo_fr), .int mo_sort, .int mo_value, .int (nI mo_ft), .int mo_wrongAt, .ref mo_row, .int mo_orderMany, .int (nI mo_fo), .int mo_lightest, .int mo_heaviest, .ref mo_before, .long mo_justSum, .long mo_toldSum, .long mo_allWays, .ref mo_lanes, .ref mo_sizes, .ref mo_cells, .int mo_torn, .ref mo_had])), (mo_st, .inl (k 0, 132, .inl (u))), (mo_isKept, .inl (k 2, 2, .inl (kf)))]) := by
  refine Met.ofW (cc := cX8_back) (maxL := 2) (ret := (some .int)) (by decide) rfl ?_
  intro p e s m args below meth c s₁ B hml hv
  obtain ⟨rfl, hsz, hP, hK, hD0, hN⟩ := hv
  have hx := B.exec
  have hb := B.bytes
  have hr := B.returns
  have hlocks := B.notSynchronized
  have hts := atoms_spec (ws := wsX8_back) B.pre
  have hown : s.vm.findClass RX8 = some m.cls := findClass_of_methodNamed B.named
  have hiX8 : ∀ w ∈ u_ws RX8 TX8 32, w ∈ wsX8_back := by decide +kernel
  have fl16 := hts (.fieldLink RX8 16 "HalfScalesModel" "isKept" "[Z") (by decide +kernel)
  have fl7 := hts (.fieldLink RX8 7 "HalfScalesModel" "st" "[I") (by decide +kernel)
  subst hsz
  have hD := hD0.self (sz := s.heap.size)
  generalize hAe : va_A [(mo, .inr (7, [.ref mo_st, .ref mo_at, .ref mo_isKept, .int (nI mo_pe), .int (nI mo_hm), .ref mo_draft, .int (nI mo_dp), .int (nI mo_dh), .int mo_toldLines, .int mo_highest, .ref mo_tape, .int (nI mo_tl), .int (nI mo_ps), .int (nI mo_fr), .int mo_sort, .int mo_value, .int (nI mo_ft), .int mo_wrongAt, .ref mo_row, .int mo_orderMany, .int (nI mo_fo), .int mo_lightest, .int mo_heaviest, .ref mo_before, .long mo_justSum, .long mo_toldSum, .long mo_allWays, .ref mo_lanes, .ref mo_sizes, .ref mo_cells, .int mo_torn, .ref mo_had])), (mo_st, .inl (k 0, 132, .inl (sf))), (mo_isKept, .inl (k 2, 2, .inl (kf)))] s.heap.size = A at hD ⊢
  have hA : ∀ q : Nat, s.heap.size ≤ q → A q := fun q h => by rw [← hAe]; exact Or.inr h
  have hS : va_S A s.heap s.heap [] := va_S.rf
  have hl := lv_entry ([.ref mo, .int i]) (n := 2) (Nat.le_of_ble_eq_true rfl)
  rw [lg_entry_eq]
  generalize (lg_sl ([.ref mo, .int i]) ++ List.replicate (2 - (lg_sl ([.ref mo, .int i])).length) Slot.unset).toArray = ls at hl ⊢
  have hl : lv_has ls 2 [(0, .ref mo), (1, .int i)] := hl
  have hP : va_P D vwCl [(mo, .inr (7, [.ref mo_st, .ref mo_at, .ref mo_isKept, .int (nI mo_pe), .int (nI mo_hm), .ref mo_draft, .int (nI mo_dp), .int (nI mo_dh), .int mo_toldLines, .int mo_highest, .ref mo_tape, .int (nI mo_tl), .int (nI mo_ps), .int (nI mo_fr), .int mo_sort, .int mo_value, .int (nI mo_ft), .int mo_wrongAt, .ref mo_row, .int mo_orderMany, .int (nI mo_fo), .int mo_lightest, .int mo_heaviest, .ref mo_before, .long mo_justSum, .long mo_toldSum, .long mo_allWays, .ref mo_lanes, .ref mo_sizes, .ref mo_cells, .int mo_torn, .ref mo_had])), (mo_st, .inl (k 0, 132, .inl (sf))), (mo_isKept, .inl (k 2, 2, .inl (kf)))] s.heap := hP
  refine lv_iload_n hx hb dX8_back_0 rfl (lv_at hl 1 rfl) ?_
  refine lv_i2l hx hb dX8_back_1 rfl ?_
  refine lv_lconst (v := 0) hx hb dX8_back_2 (by decide) ?_
  refine lv_lconst (v := 1) hx hb dX8_back_3 (by decide) ?_
  refine hs_pi (va_runS (As := [.long (((i) : Int32).toInt64), .long 0, .long 1]) (rest := []) ⟨hx, hb, hml, hown, hts⟩ (gm_in l D k _ i 0 1) (va_cwS 3 hts gX8_back_X8_in rfl rfl rfl (by decide +kernel) ⟨Nat.le_of_ble_eq_true rfl, Nat.le_of_ble_eq_true rfl⟩) (hs_preS hK hN (hs_subP (w := []) hP [] rfl) (hD.sub (ws' := []) [] (by decide) rfl)) rfl rfl hl.1 rfl (lv_room (Nat.le_of_ble_eq_true rfl)) dX8_back_4 ⟨Nat.le_of_ble_eq_true rfl, Nat.le_of_ble_eq_true rfl⟩) hP hD hS hA (fun r_1 u_3 H locs hw_2 hP hS => ?_)
  refine hs_topi (hsb (hsin i 0 1)) hw_2 ?_
  refine lv_if_ne (tgt := 12) hx hb dX8_back_7 (by decide) (fun c_4 => ?_) (fun c_4 => ?_)
  · rcases hs_v01 (hs_nb c_4) with rfl | rfl
    · refine lv_aload_n hx hb dX8_back_12 rfl (lv_at hl 0 rfl) ?_
      refine va_get (D := D) (ci := 7) (v := .ref mo_isKept) (C := RX8) (T := TX8) (N := 32) hx hb hts hiX8 hown hK hP 0 rfl rfl 2 (by decide) fl16 (fun _ h9 => h9) rfl dX8_back_13 ?_
      refine lv_iload_n hx hb dX8_back_16 rfl (lv_at hl 1 rfl) ?_
      refine va_zald hx hb hK hP 2 2 rfl rfl (hs_in (by decide)) dX8_back_17 ?_
      refine lv_if_ne (tgt := 24) hx hb dX8_back_18 (by decide) (fun c_5 => ?_) (fun c_5 => ?_)
      · refine lv_aload_n hx hb dX8_back_24 rfl (lv_at hl 0 rfl) ?_
        refine lv_iconst (v := 0) hx hb dX8_back_25 (by decide) ?_
        refine lv_bipush (v := 44) hx hb dX8_back_26 (by decide) ?_
        refine lv_iload_n hx hb dX8_back_28 rfl (lv_at hl 1 rfl) ?_
        refine lv_iconst (v := 1) hx hb dX8_back_29 (by decide) ?_
        refine lv_iadd hx hb dX8_back_30 ?_
        refine hs_topi 1 (by first | rfl | decide +kernel) ?_
        refine lv_imul hx hb dX8_back_31 ?_
        refine hs_topi 44 (by first | rfl | decide +kernel) ?_
        refine hs_cv (va_runV (As := [.int 0, .int 44]) (rest := []) ⟨hx, hb, hml, hown, hts⟩ (gm_copies l D k _ mo mo_st mo_at mo_isKept mo_pe mo_hm mo_draft mo_dp mo_dh mo_toldLines mo_highest mo_tape mo_tl mo_ps mo_fr mo_sort mo_value mo_ft mo_wrongAt mo_row mo_orderMany mo_fo mo_lightest mo_heaviest mo_before mo_justSum mo_toldSum mo_allWays mo_lanes mo_sizes mo_cells mo_torn mo_had sf 0 44 (by decide) (by decide) (by decide)) (cwV 2 hts gX8_back_X8_copies rfl rfl rfl (by decide +kernel) ⟨Nat.le_of_ble_eq_true rfl, Nat.le_of_ble_eq_true rfl⟩) (hs_preV hK hN (hs_subP (w := [(mo, .inr (7, [.ref mo_st, .ref mo_at, .ref mo_isKept, .int (nI mo_pe), .int (nI mo_hm), .ref mo_draft, .int (nI mo_dp), .int (nI mo_dh), .int mo_toldLines, .int mo_highest, .ref mo_tape, .int (nI mo_tl), .int (nI mo_ps), .int (nI mo_fr), .int mo_sort, .int mo_value, .int (nI mo_ft), .int mo_wrongAt, .ref mo_row, .int mo_orderMany, .int (nI mo_fo), .int mo_lightest, .int mo_heaviest, .ref mo_before, .long mo_justSum, .long mo_toldSum, .long mo_allWays, .ref mo_lanes, .ref mo_sizes, .ref mo_cells, .int mo_torn, .ref mo_had])), (mo_st, .inl (k 0, 132, .inl (sf)))]) hP [0, 1] rfl) (hD.sub (ws' := [(mo, .inr (7, [.ref mo_st, .ref mo_at, .ref mo_isKept, .int (nI mo_pe), .int (nI mo_hm), .ref mo_draft, .int (nI mo_dp), .int (nI mo_dh), .int mo_toldLines, .int mo_highest, .ref mo_tape, .int (nI mo_tl), .int (nI mo_ps), .int (nI mo_fr), .int mo_sort, .int mo_value, .int (nI mo_ft), .int mo_wrongAt, .ref mo_row, .int mo_orderMany, .int (nI mo_fo), .int mo_lightest, .int mo_heaviest, .ref mo_before, .long mo_justSum, .long mo_toldSum, .long mo_allWays, .ref mo_lanes, .ref mo_sizes, .ref mo_cells, .int mo_torn, .ref mo_had])), (mo_st, .inl (k 0, 132, .inl (sf)))]) [0, 1] (by decide) rfl) (ci := 7) (q0 := 0) rfl rfl) rfl rfl hl.1 rfl (lv_room (Nat.le_of_ble_eq_true rfl)) dX8_back_32 ⟨Nat.le_of_ble_eq_true rfl, Nat.le_of_ble_eq_true rfl⟩) hP hD hS hA [0, 1] [2] [(mo_isKept, .inl (k 2, 2, .inl (kf)))] rfl rfl (by decide) (by decide) [1, 2, 0] (fun u_8 => [(mo, .inr (7, [.ref mo_st, .ref mo_at, .ref mo_isKept, .int (nI mo_pe), .int (nI mo_hm), .ref mo_draft, .int (nI mo_dp), .int (nI mo_dh), .int mo_toldLines, .int mo_highest, .ref mo_tape, .int (nI mo_tl), .int (nI mo_ps), .int (nI mo_fr), .int mo_sort, .int mo_value, .int (nI mo_ft), .int mo_wrongAt, .ref mo_row, .int mo_orderMany, .int (nI mo_fo), .int mo_lightest, .int mo_heaviest, .ref mo_before, .long mo_justSum, .long mo_toldSum, .long mo_allWays, .ref mo_lanes, .ref mo_sizes, .ref mo_cells, .int mo_torn, .ref mo_had])), (mo_st, .inl (k 0, 132, .inl (u_8))), (mo_isKept, .inl (k 2, 2, .inl (kf)))]) (fun _ => rfl) (by decide) (fun u_8 H locs hw_7 hP hD hS => ?_)
        have hP : va_P D vwCl [(mo, .inr (7, [.ref mo_st, .ref mo_at, .ref mo_isKept, .int (nI mo_pe), .int (nI mo_hm), .ref mo_draft, .int (nI mo_dp), .int (nI mo_dh), .int mo_toldLines, .int mo_highest, .ref mo_tape, .int (nI mo_tl), .int (nI mo_ps), .int (nI mo_fr), .int mo_sort, .int mo_value, .int (nI mo_ft), .int mo_wrongAt, .ref mo_row, .int mo_orderMany, .int (nI mo_fo), .int mo_lightest, .int mo_heaviest, .ref mo_before, .long mo_justSum, .long mo_toldSum, .long mo_allWays, .ref mo_lanes, .ref mo_sizes, .ref mo_cells, .int mo_torn, .ref mo_had])), (mo_st, .inl (k 0, 132, .inl (u_8))), (mo_isKept, .inl (k 2, 2, .inl (kf)))] H := hP
        have hD : va_D A [(mo, .inr (7, [.ref mo_st, .ref mo_at, .ref mo_isKept, .int (nI mo_pe), .int (nI mo_hm), .ref mo_draft, .int (nI mo_dp), .int (nI mo_dh), .int mo_toldLines, .int mo_highest, .ref mo_tape, .int (nI mo_tl), .int (nI mo_ps), .int (nI mo_fr), .int mo_sort, .int mo_value, .int (nI mo_ft), .int mo_wrongAt, .ref mo_row, .int mo_orderMany, .int (nI mo_fo), .int mo_lightest, .int mo_heaviest, .ref mo_before, .long mo_justSum, .long mo_toldSum, .long mo_allWays, .ref mo_lanes, .ref mo_sizes, .ref mo_cells, .int mo_torn, .ref mo_had])), (mo_st, .inl (k 0, 132, .inl (u_8))), (mo_isKept, .inl (k 2, 2, .inl (kf)))] := hD
        have hw_7 : (∀ q, q < 44 → u_8 (0 + q) = sf (44 + q)) ∧ ∀ q, ¬ (0 ≤ q ∧ q < 0 + 44) → u_8 q = sf q := hw_7
        refine lv_aload_n hx hb dX8_back_35 rfl (lv_at hl 0 rfl) ?_
        refine va_get (D := D) (ci := 7) (v := .ref mo_st) (C := RX8) (T := TX8) (N := 32) hx hb hts hiX8 hown hK hP 0 rfl rfl 0 (by decide) fl7 (fun _ h9 => h9) rfl dX8_back_36 ?_
        refine lv_iconst (v := 0) hx hb dX8_back_39 (by decide) ?_
        refine va_iald hx hb hK hP 1 0 rfl rfl (hs_in (by decide)) dX8_back_40 ?_
        exact hs_iret hx hb hr hlocks hK hP hD hS u_8 [0, 1, 2] rfl (by decide) dX8_back_41 (⟨fun q hq => hw_7.2 q (by omega), Or.inr (Or.inl ⟨c_5, fun q hq => (congrArg _ (Nat.zero_add q)).symm.trans (hw_7.1 q hq)⟩)⟩)
      · refine lv_bipush (v := (-2)) hx hb dX8_back_21 (by decide) ?_
        exact hs_iret hx hb hr hlocks hK hP hD hS sf [0, 1, 2] rfl (by decide) dX8_back_23 (⟨fun _ _ => rfl, Or.inl (fun _ _ => rfl)⟩)
    · refine lv_aload_n hx hb dX8_back_12 rfl (lv_at hl 0 rfl) ?_
      refine va_get (D := D) (ci := 7) (v := .ref mo_isKept) (C := RX8) (T := TX8) (N := 32) hx hb hts hiX8 hown hK hP 0 rfl rfl 2 (by decide) fl16 (fun _ h9 => h9) rfl dX8_back_13 ?_
      refine lv_iload_n hx hb dX8_back_16 rfl (lv_at hl 1 rfl) ?_
      refine va_zald hx hb hK hP 2 2 rfl rfl (hs_in (by decide)) dX8_back_17 ?_
      refine lv_if_ne (tgt := 24) hx hb dX8_back_18 (by decide) (fun c_9 => ?_) (fun c_9 => ?_)
      · refine lv_aload_n hx hb dX8_back_24 rfl (lv_at hl 0 rfl) ?_
        refine lv_iconst (v := 0) hx hb dX8_back_25 (by decide) ?_
        refine lv_bipush (v := 44) hx hb dX8_back_26 (by decide) ?_
        refine lv_iload_n hx hb dX8_back_28 rfl (lv_at hl 1 rfl) ?_
        refine lv_iconst (v := 1) hx hb dX8_back_29 (by decide) ?_
        refine lv_iadd hx hb dX8_back_30 ?_
        refine hs_topi 2 (by first | rfl | decide +kernel) ?_
        refine lv_imul hx hb dX8_back_31 ?_
        refine hs_topi 88 (by first | rfl | decide +kernel) ?_
        refine hs_cv (va_runV (As := [.int 0, .int 88]) (rest := []) ⟨hx, hb, hml, hown, hts⟩ (gm_copies l D k _ mo mo_st mo_at mo_isKept mo_pe mo_hm mo_draft mo_dp mo_dh mo_toldLines mo_highest mo_tape mo_tl mo_ps mo_fr mo_sort mo_value mo_ft mo_wrongAt mo_row mo_orderMany mo_fo mo_lightest mo_heaviest mo_before mo_justSum mo_toldSum mo_allWays mo_lanes mo_sizes mo_cells mo_torn mo_had sf 0 88 (by decide) (by decide) (by decide)) (cwV 2 hts gX8_back_X8_copies rfl rfl rfl (by decide +kernel) ⟨Nat.le_of_ble_eq_true rfl, Nat.le_of_ble_eq_true rfl⟩) (hs_preV hK hN (hs_subP (w := [(mo, .inr (7, [.ref mo_st, .ref mo_at, .ref mo_isKept, .int (nI mo_pe), .int (nI mo_hm), .ref mo_draft, .int (nI mo_dp), .int (nI mo_dh), .int mo_toldLines, .int mo_highest, .ref mo_tape, .int (nI mo_tl), .int (nI mo_ps), .int (nI mo_fr), .int mo_sort, .int mo_value, .int (nI mo_ft), .int mo_wrongAt, .ref mo_row, .int mo_orderMany, .int (nI mo_fo), .int mo_lightest, .int mo_heaviest, .ref mo_before, .long mo_justSum, .long mo_toldSum, .long mo_allWays, .ref mo_lanes, .ref mo_sizes, .ref mo_cells, .int mo_torn, .ref mo_had])), (mo_st, .inl (k 0, 132, .inl (sf)))]) hP [0, 1] rfl) (hD.sub (ws' := [(mo, .inr (7, [.ref mo_st, .ref mo_at, .ref mo_isKept, .int (nI mo_pe), .int (nI mo_hm), .ref mo_draft, .int (nI mo_dp), .int (nI mo_dh), .int mo_toldLines, .int mo_highest, .ref mo_tape, .int (nI mo_tl), .int (nI mo_ps), .int (nI mo_fr), .int mo_sort, .int mo_value, .int (nI mo_ft), .int mo_wrongAt, .ref mo_row, .int mo_orderMany, .int (nI mo_fo), .int mo_lightest, .int mo_heaviest, .ref mo_before, .long mo_justSum, .long mo_toldSum, .long mo_allWays, .ref mo_lanes, .ref mo_sizes, .ref mo_cells, .int mo_torn, .ref mo_had])), (mo_st, .inl (k 0, 132, .inl (sf)))]) [0, 1] (by decide) rfl) (ci := 7) (q0 := 0) rfl rfl) rfl rfl hl.1 rfl (lv_room (Nat.le_of_ble_eq_true rfl)) dX8_back_32 ⟨Nat.le_of_ble_eq_true rfl, Nat.le_of_ble_eq_true rfl⟩) hP hD hS hA [0, 1] [2] [(mo_isKept, .inl (k 2, 2, .inl (kf)))] rfl rfl (by decide) (by decide) [1, 2, 0] (fun u_12 => [(mo, .inr (7, [.ref mo_st, .ref mo_at, .ref mo_isKept, .int (nI mo_pe), .int (nI mo_hm), .ref mo_draft, .int (nI mo_dp), .int (nI mo_dh), .int mo_toldLines, .int mo_highest, .ref mo_tape, .int (nI mo_tl), .int (nI mo_ps), .int (nI mo_fr), .int mo_sort, .int mo_value, .int (nI mo_ft), .int mo_wrongAt, .ref mo_row, .int mo_orderMany, .int (nI mo_fo), .int mo_lightest, .int mo_heaviest, .ref mo_before, .long mo_justSum, .long mo_toldSum, .long mo_allWays, .ref mo_lanes, .ref mo_sizes, .ref mo_cells, .int mo_torn, .ref mo_had])), (mo_st, .inl (k 0, 132, .inl (u_12))), (mo_isKept, .inl (k 2, 2, .inl (kf)))]) (fun _ => rfl) (by decide) (fun u_12 H locs hw_11 hP hD hS => ?_)
        have hP : va_P D vwCl [(mo, .inr (7, [.ref mo_st, .ref mo_at, .ref mo_isKept, .int (nI mo_pe), .int (nI mo_hm), .ref mo_draft, .int (nI mo_dp), .int (nI mo_dh), .int mo_toldLines, .int mo_highest, .ref mo_tape, .int (nI mo_tl), .int (nI mo_ps), .int (nI mo_fr), .int mo_sort, .int mo_value, .int (nI mo_ft), .int mo_wrongAt, .ref mo_row, .int mo_orderMany, .int (nI mo_fo), .int mo_lightest, .int mo_heaviest, .ref mo_before, .long mo_justSum, .long mo_toldSum, .long mo_allWays, .ref mo_lanes, .ref mo_sizes, .ref mo_cells, .int mo_torn, .ref mo_had])), (mo_st, .inl (k 0, 132, .inl (u_12))), (mo_isKept, .inl (k 2, 2, .inl (kf)))] H := hP
        have hD : va_D A [(mo, .inr (7, [.ref mo_st, .ref mo_at, .ref mo_isKept, .int (nI mo_pe), .int (nI mo_hm), .ref mo_draft, .int (nI mo_dp), .int (nI mo_dh), .int mo_toldLines, .int mo_highest, .ref mo_tape, .int (nI mo_tl), .int (nI mo_ps), .int (nI mo_fr), .int mo_sort, .int mo_value, .int (nI mo_ft), .int mo_wrongAt, .ref mo_row, .int mo_orderMany, .int (nI mo_fo), .int mo_lightest, .int mo_heaviest, .ref mo_before, .long mo_justSum, .long mo_toldSum, .long mo_allWays, .ref mo_lanes, .ref mo_sizes, .ref mo_cells, .int mo_torn, .ref mo_had])), (mo_st, .inl (k 0, 132, .inl (u_12))), (mo_isKept, .inl (k 2, 2, .inl (kf)))] := hD
        have hw_11 : (∀ q, q < 44 → u_12 (0 + q) = sf (88 + q)) ∧ ∀ q, ¬ (0 ≤ q ∧ q < 0 + 44) → u_12 q = sf q := hw_11
        refine lv_aload_n hx hb dX8_back_35 rfl (lv_at hl 0 rfl) ?_
        refine va_get (D := D) (ci := 7) (v := .ref mo_st) (C := RX8) (T := TX8) (N := 32) hx hb hts hiX8 hown hK hP 0 rfl rfl 0 (by decide) fl7 (fun _ h9 => h9) rfl dX8_back_36 ?_
        refine lv_iconst (v := 0) hx hb dX8_back_39 (by decide) ?_
        refine va_iald hx hb hK hP 1 0 rfl rfl (hs_in (by decide)) dX8_back_40 ?_
        exact hs_iret hx hb hr hlocks hK hP hD hS u_12 [0, 1, 2] rfl (by decide) dX8_back_41 (⟨fun q hq => hw_11.2 q (by omega), Or.inr (Or.inr ⟨c_9, fun q hq => (congrArg _ (Nat.zero_add q)).symm.trans (hw_11.1 q hq)⟩)⟩)
      · refine lv_bipush (v := (-2)) hx hb dX8_back_21 (by decide) ?_
        exact hs_iret hx hb hr hlocks hK hP hD hS sf [0, 1, 2] rfl (by decide) dX8_back_23 (⟨fun _ _ => rfl, Or.inl (fun _ _ => rfl)⟩)
  · refine lv_iconst (v := (-1)) hx hb dX8_back_10 (by decide) ?_
    exact hs_iret hx hb hr hlocks hK hP hD hS sf [0, 1, 2] rfl (by decide) dX8_back_11 (⟨fun _ _ => rfl, Or.inl (fun _ _ => rfl)⟩)
