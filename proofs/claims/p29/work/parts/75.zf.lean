set_option maxHeartbeats 4000000 in
set_option maxRecDepth 100000 in
theorem gr_findOrders (l : Launch) (D : va_G) (k : Nat → ClassId) (sz : Nat) (mo : Nat) (mo_st : Nat) (mo_at : Nat) (mo_isKept : Nat) (mo_pe : Nat) (mo_hm : Nat) (mo_draft : Nat) (mo_dp : Nat) (mo_dh : Nat) (mo_toldLines : Int32) (mo_highest : Int32) (mo_tape : Nat) (mo_tl : Nat) (mo_ps : Nat) (mo_fr : Nat) (mo_sort : Int32) (mo_value : Int32) (mo_ft : Nat) (mo_wrongAt : Int32) (mo_row : Nat) (mo_orderMany : Int32) (mo_fo : Nat) (mo_lightest : Int32) (mo_heaviest : Int32) (mo_before : Nat) (mo_justSum : Int64) (mo_toldSum : Int64) (mo_allWays : Int64) (mo_lanes : Nat) (mo_sizes : Nat) (mo_cells : Nat) (mo_torn : Int32) (mo_had : Nat) (af : Nat → Int32) (rf : Nat → Int32) (bf : Nat → Int32) (n : Nat) (lt : Nat → Nat) (hv : Nat → Nat) (np : Nat) (hn2 : 2 ≤ n) (hn : n ≤ 5) (e3 : af 16 = nI np) (h3 : np ≤ 8) (hpa : ∀ k, k < np → (af (17 + k) = nI (10 * lt k + hv k) ∧ lt k < 5 ∧ hv k < 5)) : MV l yX8_findOrders wsX8_findOrders ({ frames := 2, cells := 0, slots := 0, locals := 47 }) D k [.ref mo, .int (nI n)] [oq7 mo mo_st mo_at mo_isKept (nI mo_pe) (nI mo_hm) mo_draft (nI mo_dp) (nI mo_dh) mo_toldLines mo_highest mo_tape (nI mo_tl) (nI mo_ps) (nI mo_fr) mo_sort mo_value (nI mo_ft) mo_wrongAt mo_row mo_orderMany (nI mo_fo) mo_lightest mo_heaviest mo_before mo_justSum mo_toldSum mo_allWays mo_lanes mo_sizes mo_cells mo_torn mo_had, oqI k mo_at 44 (af), oqI k mo_row 5 (rf), oqI k mo_before 25 (bf)] sz (fun (u : (Nat × Nat × Nat × Nat) × (Nat → Int32) × (Nat → Int32)) => foI n lt hv np (n ^ n) u.1.1 u.1.2.1 u.1.2.2.1 u.1.2.2.2 u.2.2 ∧ u.1.1 ≤ 3125 ∧ u.1.2.1 ≤ 3125 ∧ u.1.2.2.1 < 32 ∧ u.1.2.2.2 < 32) (fun (u : (Nat × Nat × Nat × Nat) × (Nat → Int32) × (Nat → Int32)) => [oq7 mo mo_st mo_at mo_isKept (nI mo_pe) (nI mo_hm) mo_draft (nI mo_dp) (nI mo_dh) mo_toldLines mo_highest mo_tape (nI mo_tl) (nI mo_ps) (nI mo_fr) mo_sort mo_value (nI mo_ft) mo_wrongAt mo_row (nI (u.1.1)) (nI (u.1.2.1)) (nI (u.1.2.2.1)) (nI (u.1.2.2.2)) mo_before mo_justSum mo_toldSum mo_allWays mo_lanes mo_sizes mo_cells mo_torn mo_had, oqI k mo_at 44 (af), oqI k mo_row 5 (u.2.1), oqI k mo_before 25 (u.2.2)]) := by
  refine Met.ofW (cc := cX8_findOrders) (maxL := 5) (ret := none) hpn_X8 rfl ?_
  intro p e s m args below meth c s₁ B hml hv
  obtain ⟨rfl, hsz, hP, hK, hD0, hN⟩ := hv
  have hx := B.exec
  have hb := B.bytes
  have hr := B.returns
  have hlocks := B.notSynchronized
  have hts := atoms_spec (ws := wsX8_findOrders) B.pre
  have hown := findClass_of_methodNamed B.named
  have hown : s.vm.findClass RX8 = some m.cls := hown
  have hiX8 : ∀ w ∈ u_ws RX8 TX8 32, w ∈ wsX8_findOrders := fun w9 hw9 => List.mem_cons_of_mem _ (igX8 w9 hw9)
  have fl149 := hts (.fieldLink RX8 149 "HalfScalesModel" "orderMany" "I") (List.mem_cons_of_mem _ (hs_inG 4 99 rfl rfl))
  have fl204 := hts (.fieldLink RX8 204 "HalfScalesModel" "firstOrder" "I") (List.mem_cons_of_mem _ (hs_inG 4 100 rfl rfl))
  have fl207 := hts (.fieldLink RX8 207 "HalfScalesModel" "lightest" "I") (List.mem_cons_of_mem _ (hs_inG 4 101 rfl rfl))
  have fl210 := hts (.fieldLink RX8 210 "HalfScalesModel" "heaviest" "I") (List.mem_cons_of_mem _ (hs_inG 4 102 rfl rfl))
  have fl26 := hts (.fieldLink RX8 26 "HalfScalesModel" "row" "[I") (List.mem_cons_of_mem _ (hs_inG 4 98 rfl rfl))
  have fl29 := hts (.fieldLink RX8 29 "HalfScalesModel" "before" "[I") (List.mem_cons_of_mem _ (hs_inG 4 103 rfl rfl))
  obtain ⟨ePn, hP5⟩ := hs_powN hn2 hn
  subst hsz
  have hD := hD0.self (sz := s.heap.size)
  generalize hAe : va_A [oq7 mo mo_st mo_at mo_isKept (nI mo_pe) (nI mo_hm) mo_draft (nI mo_dp) (nI mo_dh) mo_toldLines mo_highest mo_tape (nI mo_tl) (nI mo_ps) (nI mo_fr) mo_sort mo_value (nI mo_ft) mo_wrongAt mo_row mo_orderMany (nI mo_fo) mo_lightest mo_heaviest mo_before mo_justSum mo_toldSum mo_allWays mo_lanes mo_sizes mo_cells mo_torn mo_had, oqI k mo_at 44 (af), oqI k mo_row 5 (rf), oqI k mo_before 25 (bf)] s.heap.size = A at hD ⊢
  have hA : ∀ q : Nat, s.heap.size ≤ q → A q := fun q h => by rw [← hAe]; exact Or.inr h
  have hS : va_S A s.heap s.heap [] := va_S.rf
  have hl := lv_entry ([.ref mo, .int (nI n)]) (n := 5) (Nat.le_of_ble_eq_true rfl)
  rw [lg_entry_eq]
  generalize (lg_sl ([.ref mo, .int (nI n)]) ++ List.replicate (5 - (lg_sl ([.ref mo, .int (nI n)])).length) Slot.unset).toArray = ls at hl ⊢
  have hl : lv_has ls 5 [(0, .ref mo), (1, .int (nI n))] := hl
  have hP : va_P D vwCl [oq7 mo mo_st mo_at mo_isKept (nI mo_pe) (nI mo_hm) mo_draft (nI mo_dp) (nI mo_dh) mo_toldLines mo_highest mo_tape (nI mo_tl) (nI mo_ps) (nI mo_fr) mo_sort mo_value (nI mo_ft) mo_wrongAt mo_row mo_orderMany (nI mo_fo) mo_lightest mo_heaviest mo_before mo_justSum mo_toldSum mo_allWays mo_lanes mo_sizes mo_cells mo_torn mo_had, oqI k mo_at 44 (af), oqI k mo_row 5 (rf), oqI k mo_before 25 (bf)] s.heap := hP
  refine lv_aload_n hx hb dX8_findOrders_0 rfl (lv_at hl 0 rfl) ?_
  refine lv_iconst (v := 0) hx hb dX8_findOrders_1 hki_0 ?_
  refine va_put (D := D) (ci := 7) (v := .int 0) (ty := .int) (C := RX8) (T := TX8) (N := 32) hx hb hts hiX8 tyX8 tyX8_ok nmX8 hown hK hP hD hS 0 rfl rfl 19 (Nat.le_of_ble_eq_true rfl) fl149 (fun _ h9 => h9) rfl (by decide +kernel) rfl rfl (Nat.le_of_ble_eq_true rfl) dX8_findOrders_2 (fun H locs hP hD hS => ?_)
  have hP : va_P D vwCl [oq7 mo mo_st mo_at mo_isKept (nI mo_pe) (nI mo_hm) mo_draft (nI mo_dp) (nI mo_dh) mo_toldLines mo_highest mo_tape (nI mo_tl) (nI mo_ps) (nI mo_fr) mo_sort mo_value (nI mo_ft) mo_wrongAt mo_row 0 (nI mo_fo) mo_lightest mo_heaviest mo_before mo_justSum mo_toldSum mo_allWays mo_lanes mo_sizes mo_cells mo_torn mo_had, oqI k mo_at 44 (af), oqI k mo_row 5 (rf), oqI k mo_before 25 (bf)] H := hP
  have hD : va_D A [oq7 mo mo_st mo_at mo_isKept (nI mo_pe) (nI mo_hm) mo_draft (nI mo_dp) (nI mo_dh) mo_toldLines mo_highest mo_tape (nI mo_tl) (nI mo_ps) (nI mo_fr) mo_sort mo_value (nI mo_ft) mo_wrongAt mo_row 0 (nI mo_fo) mo_lightest mo_heaviest mo_before mo_justSum mo_toldSum mo_allWays mo_lanes mo_sizes mo_cells mo_torn mo_had, oqI k mo_at 44 (af), oqI k mo_row 5 (rf), oqI k mo_before 25 (bf)] := hD
  refine lv_aload_n hx hb dX8_findOrders_5 rfl (lv_at hl 0 rfl) ?_
  refine lv_iconst (v := 0) hx hb dX8_findOrders_6 hki_0 ?_
  refine va_put (D := D) (ci := 7) (v := .int 0) (ty := .int) (C := RX8) (T := TX8) (N := 32) hx hb hts hiX8 tyX8 tyX8_ok nmX8 hown hK hP hD hS 0 rfl rfl 20 (Nat.le_of_ble_eq_true rfl) fl204 (fun _ h9 => h9) rfl (by decide +kernel) rfl rfl (Nat.le_of_ble_eq_true rfl) dX8_findOrders_7 (fun H locs hP hD hS => ?_)
  have hP : va_P D vwCl [oq7 mo mo_st mo_at mo_isKept (nI mo_pe) (nI mo_hm) mo_draft (nI mo_dp) (nI mo_dh) mo_toldLines mo_highest mo_tape (nI mo_tl) (nI mo_ps) (nI mo_fr) mo_sort mo_value (nI mo_ft) mo_wrongAt mo_row 0 0 mo_lightest mo_heaviest mo_before mo_justSum mo_toldSum mo_allWays mo_lanes mo_sizes mo_cells mo_torn mo_had, _, _, _] H := hP
  have hD : va_D A [oq7 mo mo_st mo_at mo_isKept (nI mo_pe) (nI mo_hm) mo_draft (nI mo_dp) (nI mo_dh) mo_toldLines mo_highest mo_tape (nI mo_tl) (nI mo_ps) (nI mo_fr) mo_sort mo_value (nI mo_ft) mo_wrongAt mo_row 0 0 mo_lightest mo_heaviest mo_before mo_justSum mo_toldSum mo_allWays mo_lanes mo_sizes mo_cells mo_torn mo_had, _, _, _] := hD
  refine lv_aload_n hx hb dX8_findOrders_10 rfl (lv_at hl 0 rfl) ?_
  refine lv_iconst (v := 0) hx hb dX8_findOrders_11 hki_0 ?_
  refine va_put (D := D) (ci := 7) (v := .int 0) (ty := .int) (C := RX8) (T := TX8) (N := 32) hx hb hts hiX8 tyX8 tyX8_ok nmX8 hown hK hP hD hS 0 rfl rfl 21 (Nat.le_of_ble_eq_true rfl) fl207 (fun _ h9 => h9) rfl (by decide +kernel) rfl rfl (Nat.le_of_ble_eq_true rfl) dX8_findOrders_12 (fun H locs hP hD hS => ?_)
  have hP : va_P D vwCl [oq7 mo mo_st mo_at mo_isKept (nI mo_pe) (nI mo_hm) mo_draft (nI mo_dp) (nI mo_dh) mo_toldLines mo_highest mo_tape (nI mo_tl) (nI mo_ps) (nI mo_fr) mo_sort mo_value (nI mo_ft) mo_wrongAt mo_row 0 0 0 mo_heaviest mo_before mo_justSum mo_toldSum mo_allWays mo_lanes mo_sizes mo_cells mo_torn mo_had, _, _, _] H := hP
  have hD : va_D A [oq7 mo mo_st mo_at mo_isKept (nI mo_pe) (nI mo_hm) mo_draft (nI mo_dp) (nI mo_dh) mo_toldLines mo_highest mo_tape (nI mo_tl) (nI mo_ps) (nI mo_fr) mo_sort mo_value (nI mo_ft) mo_wrongAt mo_row 0 0 0 mo_heaviest mo_before mo_justSum mo_toldSum mo_allWays mo_lanes mo_sizes mo_cells mo_torn mo_had, _, _, _] := hD
  refine lv_aload_n hx hb dX8_findOrders_15 rfl (lv_at hl 0 rfl) ?_
  refine lv_iconst (v := 0) hx hb dX8_findOrders_16 hki_0 ?_
  refine va_put (D := D) (ci := 7) (v := .int 0) (ty := .int) (C := RX8) (T := TX8) (N := 32) hx hb hts hiX8 tyX8 tyX8_ok nmX8 hown hK hP hD hS 0 rfl rfl 22 (Nat.le_of_ble_eq_true rfl) fl210 (fun _ h9 => h9) rfl (by decide +kernel) rfl rfl (Nat.le_of_ble_eq_true rfl) dX8_findOrders_17 (fun H locs hP hD hS => ?_)
  have hP : va_P D vwCl [oq7 mo mo_st mo_at mo_isKept (nI mo_pe) (nI mo_hm) mo_draft (nI mo_dp) (nI mo_dh) mo_toldLines mo_highest mo_tape (nI mo_tl) (nI mo_ps) (nI mo_fr) mo_sort mo_value (nI mo_ft) mo_wrongAt mo_row 0 0 0 0 mo_before mo_justSum mo_toldSum mo_allWays mo_lanes mo_sizes mo_cells mo_torn mo_had, _, _, _] H := hP
  have hD : va_D A [oq7 mo mo_st mo_at mo_isKept (nI mo_pe) (nI mo_hm) mo_draft (nI mo_dp) (nI mo_dh) mo_toldLines mo_highest mo_tape (nI mo_tl) (nI mo_ps) (nI mo_fr) mo_sort mo_value (nI mo_ft) mo_wrongAt mo_row 0 0 0 0 mo_before mo_justSum mo_toldSum mo_allWays mo_lanes mo_sizes mo_cells mo_torn mo_had, _, _, _] := hD
  refine lv_iconst (v := 0) hx hb dX8_findOrders_20 hki_0 ?_
  refine lv_istore_n (lv' := [(2, .int 0), (0, .ref mo), (1, .int (nI n))]) hx hb dX8_findOrders_21 rfl hl (Nat.le_of_ble_eq_true rfl) rfl (fun ls hl => ?_)
  refine hs_while (σ := Nat × (Nat → Int32)) (fun x => x.1 ≤ 25 ∧ ∀ j, j < x.1 → x.2 j = 0) (fun x => 25 - x.1) (fun x => [oq7 mo mo_st mo_at mo_isKept (nI mo_pe) (nI mo_hm) mo_draft (nI mo_dp) (nI mo_dh) mo_toldLines mo_highest mo_tape (nI mo_tl) (nI mo_ps) (nI mo_fr) mo_sort mo_value (nI mo_ft) mo_wrongAt mo_row 0 0 0 0 mo_before mo_justSum mo_toldSum mo_allWays mo_lanes mo_sizes mo_cells mo_torn mo_had, oqI k mo_at 44 (af), oqI k mo_row 5 (rf), oqI k mo_before 25 ((x.2))]) (fun x => [(2, .int (nI (x.1))), (0, .ref mo), (1, .int (nI n))]) ?_ (0, bf) ?_ hP hD hS hl
  · intro x hI ih22 H locs ls hP hD hS hl
    obtain ⟨kk, bg⟩ := x
    try dsimp only at hI
    have hP : va_P D vwCl [_, _, _, oqI k mo_before 25 (bg)] H := hP
    have hD : va_D A [_, _, _, oqI k mo_before 25 (bg)] := hD
    have hl : lv_has ls 5 [(2, .int (nI kk)), (0, .ref mo), (1, .int (nI n))] := hl
    refine lv_iload_n hx hb dX8_findOrders_22 rfl (lv_at hl 0 rfl) ?_
    refine lv_bipush (v := 25) hx hb dX8_findOrders_23 hkb_25 ?_
    refine lv_icmp_ge (tgt := 41) hx hb dX8_findOrders_25 rfl (fun c_1 => ?_) (fun c_1 => ?_)
    · have nc_1 : 25 ≤ kk := (nI_leI (a := 25) (b := kk) (by omega) (by omega)).mp c_1
      refine lv_iconst (v := 0) hx hb dX8_findOrders_41 hki_0 ?_
      refine lv_istore_n (lv' := [(2, .int 0), (0, .ref mo), (1, .int (nI n))]) hx hb dX8_findOrders_42 rfl hl (Nat.le_of_ble_eq_true rfl) rfl (fun ls hl => ?_)
      refine hs_while (σ := Nat × (Nat → Int32) × (Nat → Int32) × Nat × Nat × Nat × Nat) (fun x => x.1 ≤ n ^ n ∧ x.2.2.2.1 ≤ x.1 ∧ x.2.2.2.2.1 ≤ x.1 ∧ x.2.2.2.2.2.1 < 32 ∧ x.2.2.2.2.2.2 < 32 ∧ foI n lt hv np x.1 x.2.2.2.1 x.2.2.2.2.1 x.2.2.2.2.2.1 x.2.2.2.2.2.2 x.2.2.1) (fun x => n ^ n - x.1) (fun x => [oq7 mo mo_st mo_at mo_isKept (nI mo_pe) (nI mo_hm) mo_draft (nI mo_dp) (nI mo_dh) mo_toldLines mo_highest mo_tape (nI mo_tl) (nI mo_ps) (nI mo_fr) mo_sort mo_value (nI mo_ft) mo_wrongAt mo_row (nI (x.2.2.2.1)) (nI (x.2.2.2.2.1)) (nI (x.2.2.2.2.2.1)) (nI (x.2.2.2.2.2.2)) mo_before mo_justSum mo_toldSum mo_allWays mo_lanes mo_sizes mo_cells mo_torn mo_had, oqI k mo_at 44 (af), oqI k mo_row 5 ((x.2.1)), oqI k mo_before 25 ((x.2.2.1))]) (fun x => [(2, .int (nI (x.1))), (0, .ref mo), (1, .int (nI n))]) ?_ (0, rf, bg, 0, 0, 0, 0) ?_ hP hD hS hl
      · intro x hI ih43 H locs ls hP hD hS hl
        obtain ⟨nb, rg, bh, om, fio, lig, hea⟩ := x
        try dsimp only at hI
        have hP : va_P D vwCl [oq7 mo mo_st mo_at mo_isKept (nI mo_pe) (nI mo_hm) mo_draft (nI mo_dp) (nI mo_dh) mo_toldLines mo_highest mo_tape (nI mo_tl) (nI mo_ps) (nI mo_fr) mo_sort mo_value (nI mo_ft) mo_wrongAt mo_row (nI om) (nI fio) (nI lig) (nI hea) mo_before mo_justSum mo_toldSum mo_allWays mo_lanes mo_sizes mo_cells mo_torn mo_had, _, oqI k mo_row 5 (rg), oqI k mo_before 25 (bh)] H := hP
        have hD : va_D A [oq7 mo mo_st mo_at mo_isKept (nI mo_pe) (nI mo_hm) mo_draft (nI mo_dp) (nI mo_dh) mo_toldLines mo_highest mo_tape (nI mo_tl) (nI mo_ps) (nI mo_fr) mo_sort mo_value (nI mo_ft) mo_wrongAt mo_row (nI om) (nI fio) (nI lig) (nI hea) mo_before mo_justSum mo_toldSum mo_allWays mo_lanes mo_sizes mo_cells mo_torn mo_had, _, oqI k mo_row 5 (rg), oqI k mo_before 25 (bh)] := hD
        have hl : lv_has ls 5 [(2, .int (nI nb)), (0, .ref mo), (1, .int (nI n))] := hl
        refine lv_iload_n hx hb dX8_findOrders_43 rfl (lv_at hl 0 rfl) ?_
        refine lv_iload_n hx hb dX8_findOrders_44 rfl (lv_at hl 2 rfl) ?_
        refine lv_iload_n hx hb dX8_findOrders_45 rfl (lv_at hl 2 rfl) ?_
        refine hs_pi (va_runS (As := [.int (nI n), .int (nI n)]) (rest := [.int (nI nb)]) ⟨hx, hb, hml, hown, hts⟩ (gm_power l D k _ (nI n) n (by omega)) (va_cwS 2 hts gX8_findOrders_X8_power rfl rfl rfl hq_X8_power ⟨Nat.le_of_ble_eq_true rfl, Nat.le_of_ble_eq_true rfl⟩) (hs_preS hK hN (hs_subP (w := []) hP [] rfl) (hD.sub (ws' := []) [] rfl rfl)) rfl rfl hl.1 rfl (lv_room (Nat.le_of_ble_eq_true rfl)) dX8_findOrders_46 ⟨Nat.le_of_ble_eq_true rfl, Nat.le_of_ble_eq_true rfl⟩) hP hD hS hA (fun r_2 u_4 H locs hw_3 hP hS => ?_)
        refine hs_topi (hspw (nI n) n) hw_3 ?_
        refine hs_topi (nI (n ^ n)) ePn ?_
        refine lv_icmp_ge (tgt := 195) hx hb dX8_findOrders_49 rfl (fun c_5 => ?_) (fun c_5 => ?_)
        · have nc_5 : (n ^ n) ≤ nb := (nI_leI (a := (n ^ n)) (b := nb) (by omega) (by omega)).mp c_5
          exact hs_vret hx hb hr hlocks hK hP hD hS ((om, fio, lig, hea), rg, bh) [0, 1, 2, 3] rfl (hs_upnd rfl) dX8_findOrders_195 (⟨by have e9 : nb = n ^ n := (by omega); rw [← e9]; exact hI.2.2.2.2.2, by (try dsimp only); omega, by (try dsimp only); omega, hI.2.2.2.1, hI.2.2.2.2.1⟩)
        · have nc_5 : ¬ (n ^ n) ≤ nb := fun hq9 => c_5 ((nI_leI (a := (n ^ n)) (b := nb) (by omega) (by omega)).mpr hq9)
          refine lv_aload_n hx hb dX8_findOrders_52 rfl (lv_at hl 1 rfl) ?_
          refine lv_iload_n hx hb dX8_findOrders_53 rfl (lv_at hl 0 rfl) ?_
          refine lv_iload_n hx hb dX8_findOrders_54 rfl (lv_at hl 2 rfl) ?_
          refine hs_ciM (va_runV (As := [.int (nI nb), .int (nI n)]) (rest := []) ⟨hx, hb, hml, hown, hts⟩ (gr_isOrder l D k _ mo mo_st mo_at mo_isKept mo_pe mo_hm mo_draft mo_dp mo_dh mo_toldLines mo_highest mo_tape mo_tl mo_ps mo_fr mo_sort mo_value mo_ft mo_wrongAt mo_row (nI om) fio (nI lig) (nI hea) mo_before mo_justSum mo_toldSum mo_allWays mo_lanes mo_sizes mo_cells mo_torn mo_had rg nb n (by omega) (by omega) (by omega)) (cwV 2 hts gX8_findOrders_X8_isOrder rfl rfl rfl ⟨rfl, hq_X8_isOrder⟩ ⟨Nat.le_of_ble_eq_true rfl, Nat.le_of_ble_eq_true rfl⟩) (hs_preV hK hN (hs_subP (w := [_, _]) hP [0, 2] rfl) (hD.sub (ws' := [_, _]) [0, 2] (hs_upnd rfl) rfl) (ci := 7) (q0 := 0) rfl rfl) rfl rfl hl.1 rfl (lv_room (Nat.le_of_ble_eq_true rfl)) dX8_findOrders_55 ⟨Nat.le_of_ble_eq_true rfl, Nat.le_of_ble_eq_true rfl⟩) hP hD hS hA [false, true, false, true] [_, _] [_, _] rfl [0, 1] rfl [0, 1] (fun u_8 => [_, _]) (fun _ => rfl) (hs_upnd rfl) [false, true, false, true] (fun u_8 => [_, _, _, _]) (fun _ => rfl) (fun r_6 u_8 H locs hw_7 hP hD hS => ?_)
          have hw_7 : r_6 = hsb (decide (hs2 n nb n = 2 ^ n - 1)) ∧ ∀ j, j < n → (u_8 j = nI (hdg n nb j) ∧ hdg n nb j < n) := hw_7
          refine hs_topi (hsb (decide (hs2 n nb n = 2 ^ n - 1))) hw_7.1 ?_
          refine lv_if_eq (tgt := 189) hx hb dX8_findOrders_58 rfl (fun c_9 => ?_) (fun c_9 => ?_)
          · refine lv_iinc (v := nI (nb + 1)) (lv' := [(2, .int (nI (nb + 1))), (0, .ref mo), (1, .int (nI n))]) hx hb dX8_findOrders_189 hl (k := 0) rfl (nI_add (nb) 1) (Nat.le_of_ble_eq_true rfl) rfl (fun ls hl => ?_)
            refine lv_goto (tgt := 43) hx hb dX8_findOrders_192 rfl ?_
            exact ih43 (nb + 1, u_8, bh, om, fio, lig, hea) (by (try dsimp only); exact ⟨by omega, by omega, by omega, by omega, by omega, foI_no hI.2.2.2.2.2 (by rw [gdB, hs_n0 c_9]; rfl)⟩) (by (try dsimp only); omega) _ _ _ hP hD hS (lv_sub hl [0, 1, 2] rfl)
          · refine lv_aload_n hx hb dX8_findOrders_61 rfl (lv_at hl 1 rfl) ?_
            refine lv_iload_n hx hb dX8_findOrders_62 rfl (lv_at hl 2 rfl) ?_
            refine hs_ciM (va_runV (As := [.int (nI n)]) (rest := []) ⟨hx, hb, hml, hown, hts⟩ (gr_isTold l D k _ mo mo_st mo_at mo_isKept mo_pe mo_hm mo_draft mo_dp mo_dh mo_toldLines mo_highest mo_tape mo_tl mo_ps mo_fr mo_sort mo_value mo_ft mo_wrongAt mo_row (nI om) fio (nI lig) (nI hea) mo_before mo_justSum mo_toldSum mo_allWays mo_lanes mo_sizes mo_cells mo_torn mo_had af u_8 n (hdg n nb) lt hv np (by omega) (fun j hj => ⟨(hw_7.2 j hj).1, by have h9 := (hw_7.2 j hj).2; omega⟩) e3 h3 hpa) (cwV 1 hts gX8_findOrders_X8_isTold rfl rfl rfl ⟨rfl, hq_X8_isTold⟩ ⟨Nat.le_of_ble_eq_true rfl, Nat.le_of_ble_eq_true rfl⟩) (hs_preV hK hN (hs_subP (w := [_, _, _]) hP [0, 1, 2] rfl) (hD.sub (ws' := [_, _, _]) [0, 1, 2] (hs_upnd rfl) rfl) (ci := 7) (q0 := 0) rfl rfl) rfl rfl hl.1 rfl (lv_room (Nat.le_of_ble_eq_true rfl)) dX8_findOrders_63 ⟨Nat.le_of_ble_eq_true rfl, Nat.le_of_ble_eq_true rfl⟩) hP hD hS hA [false, false, false, true] [_] [_, _, _] rfl [0, 1, 2] rfl [0, 1, 2] (fun u_12 => [_, _, _]) (fun _ => rfl) (hs_upnd rfl) [false, false, false, true] (fun u_12 => [_, _, _, _]) (fun _ => rfl) (fun r_10 u_12 H locs hw_11 hP hD hS => ?_)
            refine hs_topi (hsb (tldB (hdg n nb) lt hv n np)) hw_11 ?_
            refine lv_if_eq (tgt := 189) hx hb dX8_findOrders_66 rfl (fun c_13 => ?_) (fun c_13 => ?_)
            · refine lv_iinc (v := nI (nb + 1)) (lv' := [(2, .int (nI (nb + 1))), (0, .ref mo), (1, .int (nI n))]) hx hb dX8_findOrders_189 hl (k := 0) rfl (nI_add (nb) 1) (Nat.le_of_ble_eq_true rfl) rfl (fun ls hl => ?_)
              refine lv_goto (tgt := 43) hx hb dX8_findOrders_192 rfl ?_
              exact ih43 (nb + 1, u_8, bh, om, fio, lig, hea) (by (try dsimp only); exact ⟨by omega, by omega, by omega, by omega, by omega, foI_no hI.2.2.2.2.2 (by rw [gdB, hs_n0 c_13, Bool.and_false])⟩) (by (try dsimp only); omega) _ _ _ hP hD hS (lv_sub hl [0, 1, 2] rfl)
            · have hI43 := hI
              have hg : gdB n lt hv np nb = true := by rw [gdB, hs_nb c_9, hs_nb c_13]; rfl
              have hrw := gd_rw hn2 hn hg
              refine lv_aload_n hx hb dX8_findOrders_69 rfl (lv_at hl 1 rfl) ?_
              refine lv_aload_n hx hb dX8_findOrders_70 rfl (lv_at hl 1 rfl) ?_
              refine va_get (D := D) (ci := 7) (v := .int (nI om)) (C := RX8) (T := TX8) (N := 32) hx hb hts hiX8 hown hK hP 0 rfl rfl 19 (Nat.le_of_ble_eq_true rfl) fl149 (fun _ h9 => h9) rfl dX8_findOrders_71 ?_
              refine lv_if_ne (tgt := 81) hx hb dX8_findOrders_74 rfl (fun c_14 => ?_) (fun c_14 => ?_)
              · have nc_14 : ¬ om = 0 := fun hq9 => c_14 ((nI_eq (a := om) (b := 0) (by omega) (by omega)).mpr hq9)
                refine lv_aload_n hx hb dX8_findOrders_81 rfl (lv_at hl 1 rfl) ?_
                refine va_get (D := D) (ci := 7) (v := .int (nI fio)) (C := RX8) (T := TX8) (N := 32) hx hb hts hiX8 hown hK hP 0 rfl rfl 20 (Nat.le_of_ble_eq_true rfl) fl204 (fun _ h9 => h9) rfl dX8_findOrders_82 ?_
                refine va_put (D := D) (ci := 7) (v := .int (nI fio)) (ty := .int) (C := RX8) (T := TX8) (N := 32) hx hb hts hiX8 tyX8 tyX8_ok nmX8 hown hK hP hD hS 0 rfl rfl 20 (Nat.le_of_ble_eq_true rfl) fl204 (fun _ h9 => h9) rfl (by decide +kernel) rfl rfl (Nat.le_of_ble_eq_true rfl) dX8_findOrders_85 (fun H locs hP hD hS => ?_)
                have hP : va_P D vwCl [_, _, _, _] H := hP
                have hD : va_D A [_, _, _, _] := hD
                refine lv_aload_n hx hb dX8_findOrders_88 rfl (lv_at hl 1 rfl) ?_
                refine lv_dup hx hb dX8_findOrders_89 rfl ?_
                refine va_get (D := D) (ci := 7) (v := .int (nI om)) (C := RX8) (T := TX8) (N := 32) hx hb hts hiX8 hown hK hP 0 rfl rfl 19 (Nat.le_of_ble_eq_true rfl) fl149 (fun _ h9 => h9) rfl dX8_findOrders_90 ?_
                refine lv_iconst (v := 1) hx hb dX8_findOrders_93 hki_1 ?_
                refine lv_iadd hx hb dX8_findOrders_94 ?_
                refine hs_topi (nI (om + 1)) (nI_add (om) (1)) ?_
                refine va_put (D := D) (ci := 7) (v := .int (nI (om + 1))) (ty := .int) (C := RX8) (T := TX8) (N := 32) hx hb hts hiX8 tyX8 tyX8_ok nmX8 hown hK hP hD hS 0 rfl rfl 19 (Nat.le_of_ble_eq_true rfl) fl149 (fun _ h9 => h9) rfl (by decide +kernel) rfl rfl (Nat.le_of_ble_eq_true rfl) dX8_findOrders_95 (fun H locs hP hD hS => ?_)
                have hP : va_P D vwCl [oq7 mo mo_st mo_at mo_isKept (nI mo_pe) (nI mo_hm) mo_draft (nI mo_dp) (nI mo_dh) mo_toldLines mo_highest mo_tape (nI mo_tl) (nI mo_ps) (nI mo_fr) mo_sort mo_value (nI mo_ft) mo_wrongAt mo_row (nI (om + 1)) (nI fio) (nI lig) (nI hea) mo_before mo_justSum mo_toldSum mo_allWays mo_lanes mo_sizes mo_cells mo_torn mo_had, _, _, _] H := hP
                have hD : va_D A [oq7 mo mo_st mo_at mo_isKept (nI mo_pe) (nI mo_hm) mo_draft (nI mo_dp) (nI mo_dh) mo_toldLines mo_highest mo_tape (nI mo_tl) (nI mo_ps) (nI mo_fr) mo_sort mo_value (nI mo_ft) mo_wrongAt mo_row (nI (om + 1)) (nI fio) (nI lig) (nI hea) mo_before mo_justSum mo_toldSum mo_allWays mo_lanes mo_sizes mo_cells mo_torn mo_had, _, _, _] := hD
                refine lv_aload_n hx hb dX8_findOrders_98 rfl (lv_at hl 1 rfl) ?_
                refine lv_dup hx hb dX8_findOrders_99 rfl ?_
                refine va_get (D := D) (ci := 7) (v := .int (nI lig)) (C := RX8) (T := TX8) (N := 32) hx hb hts hiX8 hown hK hP 0 rfl rfl 21 (Nat.le_of_ble_eq_true rfl) fl207 (fun _ h9 => h9) rfl dX8_findOrders_100 ?_
                refine lv_iconst (v := 1) hx hb dX8_findOrders_103 hki_1 ?_
                refine lv_aload_n hx hb dX8_findOrders_104 rfl (lv_at hl 1 rfl) ?_
                refine va_get (D := D) (ci := 7) (v := .ref mo_row) (C := RX8) (T := TX8) (N := 32) hx hb hts hiX8 hown hK hP 0 rfl rfl 18 (Nat.le_of_ble_eq_true rfl) fl26 (fun _ h9 => h9) rfl dX8_findOrders_105 ?_
                refine lv_iconst (v := 0) hx hb dX8_findOrders_108 hki_0 ?_
                refine va_iald hx hb hK hP 2 0 rfl rfl (hs_in (by decide)) dX8_findOrders_109 ?_
                have hd0 := (hw_7.2 0 (by omega)).2
                refine hs_topi (nI (hdg n nb 0)) ((hw_7.2 0 (by omega)).1) ?_
                refine lv_ishl hx hb dX8_findOrders_110 ?_
                refine lv_ior hx hb dX8_findOrders_111 ?_
                have hlg : lig ||| 2 ^ hdg n nb 0 < 32 := Nat.or_lt_two_pow (n := 5) (by omega) (Nat.pow_lt_pow_right (by decide) (by omega))
                refine hs_topi (nI (lig ||| 2 ^ hdg n nb 0)) (hs_or5 lig (by omega) (hdg n nb 0) (by omega)) ?_
                refine va_put (D := D) (ci := 7) (v := .int (nI (lig ||| 2 ^ hdg n nb 0))) (ty := .int) (C := RX8) (T := TX8) (N := 32) hx hb hts hiX8 tyX8 tyX8_ok nmX8 hown hK hP hD hS 0 rfl rfl 21 (Nat.le_of_ble_eq_true rfl) fl207 (fun _ h9 => h9) rfl (by decide +kernel) rfl rfl (Nat.le_of_ble_eq_true rfl) dX8_findOrders_112 (fun H locs hP hD hS => ?_)
                have hP : va_P D vwCl [oq7 mo mo_st mo_at mo_isKept (nI mo_pe) (nI mo_hm) mo_draft (nI mo_dp) (nI mo_dh) mo_toldLines mo_highest mo_tape (nI mo_tl) (nI mo_ps) (nI mo_fr) mo_sort mo_value (nI mo_ft) mo_wrongAt mo_row (nI (om + 1)) (nI fio) (nI (lig ||| 2 ^ hdg n nb 0)) (nI hea) mo_before mo_justSum mo_toldSum mo_allWays mo_lanes mo_sizes mo_cells mo_torn mo_had, _, _, _] H := hP
                have hD : va_D A [oq7 mo mo_st mo_at mo_isKept (nI mo_pe) (nI mo_hm) mo_draft (nI mo_dp) (nI mo_dh) mo_toldLines mo_highest mo_tape (nI mo_tl) (nI mo_ps) (nI mo_fr) mo_sort mo_value (nI mo_ft) mo_wrongAt mo_row (nI (om + 1)) (nI fio) (nI (lig ||| 2 ^ hdg n nb 0)) (nI hea) mo_before mo_justSum mo_toldSum mo_allWays mo_lanes mo_sizes mo_cells mo_torn mo_had, _, _, _] := hD
                refine lv_aload_n hx hb dX8_findOrders_115 rfl (lv_at hl 1 rfl) ?_
                refine lv_dup hx hb dX8_findOrders_116 rfl ?_
                refine va_get (D := D) (ci := 7) (v := .int (nI hea)) (C := RX8) (T := TX8) (N := 32) hx hb hts hiX8 hown hK hP 0 rfl rfl 22 (Nat.le_of_ble_eq_true rfl) fl210 (fun _ h9 => h9) rfl dX8_findOrders_117 ?_
                refine lv_iconst (v := 1) hx hb dX8_findOrders_120 hki_1 ?_
                refine lv_aload_n hx hb dX8_findOrders_121 rfl (lv_at hl 1 rfl) ?_
                refine va_get (D := D) (ci := 7) (v := .ref mo_row) (C := RX8) (T := TX8) (N := 32) hx hb hts hiX8 hown hK hP 0 rfl rfl 18 (Nat.le_of_ble_eq_true rfl) fl26 (fun _ h9 => h9) rfl dX8_findOrders_122 ?_
                refine lv_iload_n hx hb dX8_findOrders_125 rfl (lv_at hl 2 rfl) ?_
                refine lv_iconst (v := 1) hx hb dX8_findOrders_126 hki_1 ?_
                refine lv_isub hx hb dX8_findOrders_127 ?_
                refine hs_topi (nI (n - 1)) (pk_sub (a := n) (b := 1) (by omega)) ?_
                refine va_iald hx hb hK hP 2 0 rfl rfl (vp_in_nI (show (n - 1) < 5 by omega) (by decide)) dX8_findOrders_128 ?_
                have hdn := (hw_7.2 ((n - 1)) (by omega)).2
                refine hs_topi (nI (hdg n nb ((n - 1)))) (by rw [nI_clamp (by omega)]; exact (hw_7.2 ((n - 1)) (by omega)).1) ?_
                refine lv_ishl hx hb dX8_findOrders_129 ?_
                refine lv_ior hx hb dX8_findOrders_130 ?_
                have hhe : hea ||| 2 ^ hdg n nb (n - 1) < 32 := Nat.or_lt_two_pow (n := 5) (by omega) (Nat.pow_lt_pow_right (by decide) (by omega))
                refine hs_topi (nI (hea ||| 2 ^ hdg n nb (n - 1))) (hs_or5 hea (by omega) (hdg n nb (n - 1)) (by omega)) ?_
                refine va_put (D := D) (ci := 7) (v := .int (nI (hea ||| 2 ^ hdg n nb (n - 1)))) (ty := .int) (C := RX8) (T := TX8) (N := 32) hx hb hts hiX8 tyX8 tyX8_ok nmX8 hown hK hP hD hS 0 rfl rfl 22 (Nat.le_of_ble_eq_true rfl) fl210 (fun _ h9 => h9) rfl (by decide +kernel) rfl rfl (Nat.le_of_ble_eq_true rfl) dX8_findOrders_131 (fun H locs hP hD hS => ?_)
                have hP : va_P D vwCl [oq7 mo mo_st mo_at mo_isKept (nI mo_pe) (nI mo_hm) mo_draft (nI mo_dp) (nI mo_dh) mo_toldLines mo_highest mo_tape (nI mo_tl) (nI mo_ps) (nI mo_fr) mo_sort mo_value (nI mo_ft) mo_wrongAt mo_row (nI (om + 1)) (nI fio) (nI (lig ||| 2 ^ hdg n nb 0)) (nI (hea ||| 2 ^ hdg n nb (n - 1))) mo_before mo_justSum mo_toldSum mo_allWays mo_lanes mo_sizes mo_cells mo_torn mo_had, _, _, _] H := hP
                have hD : va_D A [oq7 mo mo_st mo_at mo_isKept (nI mo_pe) (nI mo_hm) mo_draft (nI mo_dp) (nI mo_dh) mo_toldLines mo_highest mo_tape (nI mo_tl) (nI mo_ps) (nI mo_fr) mo_sort mo_value (nI mo_ft) mo_wrongAt mo_row (nI (om + 1)) (nI fio) (nI (lig ||| 2 ^ hdg n nb 0)) (nI (hea ||| 2 ^ hdg n nb (n - 1))) mo_before mo_justSum mo_toldSum mo_allWays mo_lanes mo_sizes mo_cells mo_torn mo_had, _, _, _] := hD
                refine lv_iconst (v := 0) hx hb dX8_findOrders_134 hki_0 ?_
                refine lv_istore_n (lv' := [(3, .int 0), (2, .int (nI nb)), (0, .ref mo), (1, .int (nI n))]) hx hb dX8_findOrders_135 rfl hl (Nat.le_of_ble_eq_true rfl) rfl (fun ls hl => ?_)
                refine hs_while (σ := Nat × (Nat → Int32)) (fun x => x.1 ≤ n ∧ ∀ a b, a < n → b < n → x.2 (5 * a + b) = nI (cntB (gaB n lt hv np a b) nb + bfn (hdg n nb) n x.1 0 a b)) (fun x => n - x.1) (fun x => [oq7 mo mo_st mo_at mo_isKept (nI mo_pe) (nI mo_hm) mo_draft (nI mo_dp) (nI mo_dh) mo_toldLines mo_highest mo_tape (nI mo_tl) (nI mo_ps) (nI mo_fr) mo_sort mo_value (nI mo_ft) mo_wrongAt mo_row (nI (om + 1)) (nI fio) (nI (lig ||| 2 ^ hdg n nb 0)) (nI (hea ||| 2 ^ hdg n nb (n - 1))) mo_before mo_justSum mo_toldSum mo_allWays mo_lanes mo_sizes mo_cells mo_torn mo_had, oqI k mo_at 44 (af), oqI k mo_row 5 (u_8), oqI k mo_before 25 ((x.2))]) (fun x => [(3, .int (nI (x.1))), (2, .int (nI nb)), (0, .ref mo), (1, .int (nI n))]) ?_ (0, bh) ?_ hP hD hS hl
                · intro x hI ih136 H locs ls hP hD hS hl
                  obtain ⟨i, bi⟩ := x
                  try dsimp only at hI
                  have hP : va_P D vwCl [_, _, _, oqI k mo_before 25 (bi)] H := hP
                  have hD : va_D A [_, _, _, oqI k mo_before 25 (bi)] := hD
                  have hl : lv_has ls 5 [(3, .int (nI i)), (2, .int (nI nb)), (0, .ref mo), (1, .int (nI n))] := hl
                  refine lv_iload_n hx hb dX8_findOrders_136 rfl (lv_at hl 0 rfl) ?_
                  refine lv_iload_n hx hb dX8_findOrders_137 rfl (lv_at hl 3 rfl) ?_
                  refine lv_icmp_ge (tgt := 189) hx hb dX8_findOrders_138 rfl (fun c_15 => ?_) (fun c_15 => ?_)
                  · have nc_15 : n ≤ i := (nI_leI (a := n) (b := i) (by omega) (by omega)).mp c_15
                    refine lv_iinc (v := nI (nb + 1)) (lv' := [(2, .int (nI (nb + 1))), (3, .int (nI i)), (0, .ref mo), (1, .int (nI n))]) hx hb dX8_findOrders_189 hl (k := 1) rfl (nI_add (nb) 1) (Nat.le_of_ble_eq_true rfl) rfl (fun ls hl => ?_)
                    refine lv_goto (tgt := 43) hx hb dX8_findOrders_192 rfl ?_
                    exact ih43 (nb + 1, u_8, bi, om + 1, fio, lig ||| 2 ^ hdg n nb 0, hea ||| 2 ^ hdg n nb (n - 1)) (by (try dsimp only); exact ⟨by omega, by omega, by omega, hlg, hhe, (by have h9 := foI_yes hI43.2.2.2.2.2 hg (bj_end hrw (by omega) hI.2); rw [if_neg nc_14] at h9; exact h9)⟩) (by (try dsimp only); omega) _ _ _ hP hD hS (lv_sub hl [0, 2, 3] rfl)
                  · have nc_15 : ¬ n ≤ i := fun hq9 => c_15 ((nI_leI (a := n) (b := i) (by omega) (by omega)).mpr hq9)
                    refine lv_iload_n hx hb dX8_findOrders_141 rfl (lv_at hl 0 rfl) ?_
                    refine lv_iconst (v := 1) hx hb dX8_findOrders_142 hki_1 ?_
                    refine lv_iadd hx hb dX8_findOrders_143 ?_
                    refine hs_topi (nI (i + 1)) (nI_add (i) (1)) ?_
                    refine lv_istore (lv' := [(4, .int (nI (i + 1))), (3, .int (nI i)), (2, .int (nI nb)), (0, .ref mo), (1, .int (nI n))]) hx hb dX8_findOrders_144 hl (Nat.le_of_ble_eq_true rfl) rfl (fun ls hl => ?_)
                    refine hs_while (σ := Nat × (Nat → Int32)) (fun x => i < x.1 ∧ x.1 ≤ n ∧ ∀ a b, a < n → b < n → x.2 (5 * a + b) = nI (cntB (gaB n lt hv np a b) nb + bfn (hdg n nb) n i x.1 a b)) (fun x => n - x.1) (fun x => [oq7 mo mo_st mo_at mo_isKept (nI mo_pe) (nI mo_hm) mo_draft (nI mo_dp) (nI mo_dh) mo_toldLines mo_highest mo_tape (nI mo_tl) (nI mo_ps) (nI mo_fr) mo_sort mo_value (nI mo_ft) mo_wrongAt mo_row (nI (om + 1)) (nI fio) (nI (lig ||| 2 ^ hdg n nb 0)) (nI (hea ||| 2 ^ hdg n nb (n - 1))) mo_before mo_justSum mo_toldSum mo_allWays mo_lanes mo_sizes mo_cells mo_torn mo_had, oqI k mo_at 44 (af), oqI k mo_row 5 (u_8), oqI k mo_before 25 ((x.2))]) (fun x => [(4, .int (nI (x.1))), (3, .int (nI i)), (2, .int (nI nb)), (0, .ref mo), (1, .int (nI n))]) ?_ (i + 1, bi) ?_ hP hD hS hl
                    · intro x hI ih146 H locs ls hP hD hS hl
                      obtain ⟨k4, bj⟩ := x
                      try dsimp only at hI
                      have hP : va_P D vwCl [_, _, _, oqI k mo_before 25 (bj)] H := hP
                      have hD : va_D A [_, _, _, oqI k mo_before 25 (bj)] := hD
                      have hl : lv_has ls 5 [(4, .int (nI k4)), (3, .int (nI i)), (2, .int (nI nb)), (0, .ref mo), (1, .int (nI n))] := hl
                      refine lv_iload hx hb dX8_findOrders_146 (lv_at hl 0 rfl) ?_
                      refine lv_iload_n hx hb dX8_findOrders_148 rfl (lv_at hl 4 rfl) ?_
                      refine lv_icmp_ge (tgt := 183) hx hb dX8_findOrders_149 rfl (fun c_16 => ?_) (fun c_16 => ?_)
                      · have nc_16 : n ≤ k4 := (nI_leI (a := n) (b := k4) (by omega) (by omega)).mp c_16
                        refine lv_iinc (v := nI (i + 1)) (lv' := [(3, .int (nI (i + 1))), (4, .int (nI k4)), (2, .int (nI nb)), (0, .ref mo), (1, .int (nI n))]) hx hb dX8_findOrders_183 hl (k := 1) rfl (nI_add (i) 1) (Nat.le_of_ble_eq_true rfl) rfl (fun ls hl => ?_)
                        refine lv_goto (tgt := 136) hx hb dX8_findOrders_186 rfl ?_
                        exact ih136 (i + 1, bj) (by (try dsimp only); exact ⟨by omega, bj_out (C := (fun a b => cntB (gaB n lt hv np a b) nb)) hrw (by omega) hI.2.2⟩) (by (try dsimp only); omega) _ _ _ hP hD hS (lv_sub hl [0, 2, 3, 4] rfl)
                      · have nc_16 : ¬ n ≤ k4 := fun hq9 => c_16 ((nI_leI (a := n) (b := k4) (by omega) (by omega)).mpr hq9)
                        refine lv_aload_n hx hb dX8_findOrders_152 rfl (lv_at hl 3 rfl) ?_
                        refine va_get (D := D) (ci := 7) (v := .ref mo_before) (C := RX8) (T := TX8) (N := 32) hx hb hts hiX8 hown hK hP 0 rfl rfl 23 (Nat.le_of_ble_eq_true rfl) fl29 (fun _ h9 => h9) rfl dX8_findOrders_153 ?_
                        refine lv_iconst (v := 5) hx hb dX8_findOrders_156 hki_5 ?_
                        refine lv_aload_n hx hb dX8_findOrders_157 rfl (lv_at hl 3 rfl) ?_
                        refine va_get (D := D) (ci := 7) (v := .ref mo_row) (C := RX8) (T := TX8) (N := 32) hx hb hts hiX8 hown hK hP 0 rfl rfl 18 (Nat.le_of_ble_eq_true rfl) fl26 (fun _ h9 => h9) rfl dX8_findOrders_158 ?_
                        refine lv_iload_n hx hb dX8_findOrders_161 rfl (lv_at hl 1 rfl) ?_
                        refine va_iald hx hb hK hP 2 0 rfl rfl (vp_in_nI (show i < 5 by omega) (by decide)) dX8_findOrders_162 ?_
                        have hdi := (hw_7.2 (i) (by omega)).2
                        refine hs_topi (nI (hdg n nb (i))) (by rw [nI_clamp (by omega)]; exact (hw_7.2 (i) (by omega)).1) ?_
                        refine lv_imul hx hb dX8_findOrders_163 ?_
                        refine hs_topi (nI (5 * (hdg n nb (i)))) (pk_mul (5) ((hdg n nb (i)))) ?_
                        refine lv_aload_n hx hb dX8_findOrders_164 rfl (lv_at hl 3 rfl) ?_
                        refine va_get (D := D) (ci := 7) (v := .ref mo_row) (C := RX8) (T := TX8) (N := 32) hx hb hts hiX8 hown hK hP 0 rfl rfl 18 (Nat.le_of_ble_eq_true rfl) fl26 (fun _ h9 => h9) rfl dX8_findOrders_165 ?_
                        refine lv_iload hx hb dX8_findOrders_168 (lv_at hl 0 rfl) ?_
                        refine va_iald hx hb hK hP 2 0 rfl rfl (vp_in_nI (show k4 < 5 by omega) (by decide)) dX8_findOrders_170 ?_
                        have hdk := (hw_7.2 (k4) (by omega)).2
                        refine hs_topi (nI (hdg n nb (k4))) (by rw [nI_clamp (by omega)]; exact (hw_7.2 (k4) (by omega)).1) ?_
                        refine lv_iadd hx hb dX8_findOrders_171 ?_
                        refine hs_topi (nI ((5 * (hdg n nb (i))) + (hdg n nb (k4)))) (nI_add ((5 * (hdg n nb (i)))) ((hdg n nb (k4)))) ?_
                        refine lv_dup2_11 hx hb dX8_findOrders_172 rfl rfl ?_
                        refine va_iald hx hb hK hP 3 0 rfl rfl (vp_in_nI (show ((5 * (hdg n nb (i))) + (hdg n nb (k4))) < 25 by omega) (by decide)) dX8_findOrders_173 ?_
                        have hcl := cntB_le (g := gaB n lt hv np (hdg n nb i) (hdg n nb k4)) nb
                        refine hs_topi (nI (cntB (gaB n lt hv np (hdg n nb i) (hdg n nb k4)) nb)) (by rw [nI_clamp (by omega)]; exact bj_read (C := (fun a b => cntB (gaB n lt hv np a b) nb)) hrw hI.2.2 (by omega) (by omega)) ?_
                        refine lv_iconst (v := 1) hx hb dX8_findOrders_174 hki_1 ?_
                        refine lv_iadd hx hb dX8_findOrders_175 ?_
                        refine hs_topi (nI ((cntB (gaB n lt hv np (hdg n nb i) (hdg n nb k4)) nb) + 1)) (nI_add ((cntB (gaB n lt hv np (hdg n nb i) (hdg n nb k4)) nb)) (1)) ?_
                        refine va_iast hx hb hK hP hD hS 3 0 rfl rfl (vp_in_nI (show ((5 * (hdg n nb (i))) + (hdg n nb (k4))) < 25 by omega) (by decide)) dX8_findOrders_176 (fun H locs hP hD hS => ?_)
                        have hP : va_P D vwCl [_, _, _, oqI k mo_before 25 (upd bj ((nI ((5 * (hdg n nb (i))) + (hdg n nb (k4)))).toNatClampNeg) (nI ((cntB (gaB n lt hv np (hdg n nb i) (hdg n nb k4)) nb) + 1)))] H := hP
                        have hD : va_D A [_, _, _, oqI k mo_before 25 (upd bj ((nI ((5 * (hdg n nb (i))) + (hdg n nb (k4)))).toNatClampNeg) (nI ((cntB (gaB n lt hv np (hdg n nb i) (hdg n nb k4)) nb) + 1)))] := hD
                        refine lv_iinc (v := nI (k4 + 1)) (lv' := [(4, .int (nI (k4 + 1))), (3, .int (nI i)), (2, .int (nI nb)), (0, .ref mo), (1, .int (nI n))]) hx hb dX8_findOrders_177 hl (k := 0) rfl (nI_add (k4) 1) (Nat.le_of_ble_eq_true rfl) rfl (fun ls hl => ?_)
                        refine lv_goto (tgt := 146) hx hb dX8_findOrders_180 rfl ?_
                        exact ih146 (k4 + 1, upd bj ((nI ((5 * (hdg n nb (i))) + (hdg n nb (k4)))).toNatClampNeg) (nI ((cntB (gaB n lt hv np (hdg n nb i) (hdg n nb k4)) nb) + 1))) (by (try dsimp only); exact ⟨by omega, by omega, bj_step (C := (fun a b => cntB (gaB n lt hv np a b) nb)) hn hrw hI.2.2 hI.1 (by omega)⟩) (by (try dsimp only); omega) _ _ _ hP hD hS (lv_sub hl [0, 1, 2, 3, 4] rfl)
                    · (try dsimp only); exact ⟨by omega, by omega, bj_in (C := (fun a b => cntB (gaB n lt hv np a b) nb)) hI.2⟩
                · (try dsimp only); exact ⟨Nat.zero_le _, bj_start (C := (fun a b => cntB (gaB n lt hv np a b) nb)) hI.2.2.2.2.2.2.2.2.2⟩
              · have nc_14 : om = 0 := (nI_eq (a := om) (b := 0) (by omega) (by omega)).mp c_14
                refine lv_iload_n hx hb dX8_findOrders_77 rfl (lv_at hl 0 rfl) ?_
                refine lv_goto (tgt := 85) hx hb dX8_findOrders_78 rfl ?_
                refine va_put (D := D) (ci := 7) (v := .int (nI nb)) (ty := .int) (C := RX8) (T := TX8) (N := 32) hx hb hts hiX8 tyX8 tyX8_ok nmX8 hown hK hP hD hS 0 rfl rfl 20 (Nat.le_of_ble_eq_true rfl) fl204 (fun _ h9 => h9) rfl (by decide +kernel) rfl rfl (Nat.le_of_ble_eq_true rfl) dX8_findOrders_85 (fun H locs hP hD hS => ?_)
                have hP : va_P D vwCl [oq7 mo mo_st mo_at mo_isKept (nI mo_pe) (nI mo_hm) mo_draft (nI mo_dp) (nI mo_dh) mo_toldLines mo_highest mo_tape (nI mo_tl) (nI mo_ps) (nI mo_fr) mo_sort mo_value (nI mo_ft) mo_wrongAt mo_row (nI om) (nI nb) (nI lig) (nI hea) mo_before mo_justSum mo_toldSum mo_allWays mo_lanes mo_sizes mo_cells mo_torn mo_had, _, _, oqI k mo_before 25 (bh)] H := hP
                have hD : va_D A [oq7 mo mo_st mo_at mo_isKept (nI mo_pe) (nI mo_hm) mo_draft (nI mo_dp) (nI mo_dh) mo_toldLines mo_highest mo_tape (nI mo_tl) (nI mo_ps) (nI mo_fr) mo_sort mo_value (nI mo_ft) mo_wrongAt mo_row (nI om) (nI nb) (nI lig) (nI hea) mo_before mo_justSum mo_toldSum mo_allWays mo_lanes mo_sizes mo_cells mo_torn mo_had, _, _, oqI k mo_before 25 (bh)] := hD
                refine lv_aload_n hx hb dX8_findOrders_88 rfl (lv_at hl 1 rfl) ?_
                refine lv_dup hx hb dX8_findOrders_89 rfl ?_
                refine va_get (D := D) (ci := 7) (v := .int (nI om)) (C := RX8) (T := TX8) (N := 32) hx hb hts hiX8 hown hK hP 0 rfl rfl 19 (Nat.le_of_ble_eq_true rfl) fl149 (fun _ h9 => h9) rfl dX8_findOrders_90 ?_
                refine lv_iconst (v := 1) hx hb dX8_findOrders_93 hki_1 ?_
                refine lv_iadd hx hb dX8_findOrders_94 ?_
                refine hs_topi (nI (om + 1)) (nI_add (om) (1)) ?_
                refine va_put (D := D) (ci := 7) (v := .int (nI (om + 1))) (ty := .int) (C := RX8) (T := TX8) (N := 32) hx hb hts hiX8 tyX8 tyX8_ok nmX8 hown hK hP hD hS 0 rfl rfl 19 (Nat.le_of_ble_eq_true rfl) fl149 (fun _ h9 => h9) rfl (by decide +kernel) rfl rfl (Nat.le_of_ble_eq_true rfl) dX8_findOrders_95 (fun H locs hP hD hS => ?_)
                have hP : va_P D vwCl [oq7 mo mo_st mo_at mo_isKept (nI mo_pe) (nI mo_hm) mo_draft (nI mo_dp) (nI mo_dh) mo_toldLines mo_highest mo_tape (nI mo_tl) (nI mo_ps) (nI mo_fr) mo_sort mo_value (nI mo_ft) mo_wrongAt mo_row (nI (om + 1)) (nI nb) (nI lig) (nI hea) mo_before mo_justSum mo_toldSum mo_allWays mo_lanes mo_sizes mo_cells mo_torn mo_had, _, _, _] H := hP
                have hD : va_D A [oq7 mo mo_st mo_at mo_isKept (nI mo_pe) (nI mo_hm) mo_draft (nI mo_dp) (nI mo_dh) mo_toldLines mo_highest mo_tape (nI mo_tl) (nI mo_ps) (nI mo_fr) mo_sort mo_value (nI mo_ft) mo_wrongAt mo_row (nI (om + 1)) (nI nb) (nI lig) (nI hea) mo_before mo_justSum mo_toldSum mo_allWays mo_lanes mo_sizes mo_cells mo_torn mo_had, _, _, _] := hD
                refine lv_aload_n hx hb dX8_findOrders_98 rfl (lv_at hl 1 rfl) ?_
                refine lv_dup hx hb dX8_findOrders_99 rfl ?_
                refine va_get (D := D) (ci := 7) (v := .int (nI lig)) (C := RX8) (T := TX8) (N := 32) hx hb hts hiX8 hown hK hP 0 rfl rfl 21 (Nat.le_of_ble_eq_true rfl) fl207 (fun _ h9 => h9) rfl dX8_findOrders_100 ?_
                refine lv_iconst (v := 1) hx hb dX8_findOrders_103 hki_1 ?_
                refine lv_aload_n hx hb dX8_findOrders_104 rfl (lv_at hl 1 rfl) ?_
                refine va_get (D := D) (ci := 7) (v := .ref mo_row) (C := RX8) (T := TX8) (N := 32) hx hb hts hiX8 hown hK hP 0 rfl rfl 18 (Nat.le_of_ble_eq_true rfl) fl26 (fun _ h9 => h9) rfl dX8_findOrders_105 ?_
                refine lv_iconst (v := 0) hx hb dX8_findOrders_108 hki_0 ?_
                refine va_iald hx hb hK hP 2 0 rfl rfl (hs_in (by decide)) dX8_findOrders_109 ?_
                have hd0 := (hw_7.2 0 (by omega)).2
                refine hs_topi (nI (hdg n nb 0)) ((hw_7.2 0 (by omega)).1) ?_
                refine lv_ishl hx hb dX8_findOrders_110 ?_
                refine lv_ior hx hb dX8_findOrders_111 ?_
                have hlg : lig ||| 2 ^ hdg n nb 0 < 32 := Nat.or_lt_two_pow (n := 5) (by omega) (Nat.pow_lt_pow_right (by decide) (by omega))
                refine hs_topi (nI (lig ||| 2 ^ hdg n nb 0)) (hs_or5 lig (by omega) (hdg n nb 0) (by omega)) ?_
                refine va_put (D := D) (ci := 7) (v := .int (nI (lig ||| 2 ^ hdg n nb 0))) (ty := .int) (C := RX8) (T := TX8) (N := 32) hx hb hts hiX8 tyX8 tyX8_ok nmX8 hown hK hP hD hS 0 rfl rfl 21 (Nat.le_of_ble_eq_true rfl) fl207 (fun _ h9 => h9) rfl (by decide +kernel) rfl rfl (Nat.le_of_ble_eq_true rfl) dX8_findOrders_112 (fun H locs hP hD hS => ?_)
                have hP : va_P D vwCl [oq7 mo mo_st mo_at mo_isKept (nI mo_pe) (nI mo_hm) mo_draft (nI mo_dp) (nI mo_dh) mo_toldLines mo_highest mo_tape (nI mo_tl) (nI mo_ps) (nI mo_fr) mo_sort mo_value (nI mo_ft) mo_wrongAt mo_row (nI (om + 1)) (nI nb) (nI (lig ||| 2 ^ hdg n nb 0)) (nI hea) mo_before mo_justSum mo_toldSum mo_allWays mo_lanes mo_sizes mo_cells mo_torn mo_had, _, _, _] H := hP
                have hD : va_D A [oq7 mo mo_st mo_at mo_isKept (nI mo_pe) (nI mo_hm) mo_draft (nI mo_dp) (nI mo_dh) mo_toldLines mo_highest mo_tape (nI mo_tl) (nI mo_ps) (nI mo_fr) mo_sort mo_value (nI mo_ft) mo_wrongAt mo_row (nI (om + 1)) (nI nb) (nI (lig ||| 2 ^ hdg n nb 0)) (nI hea) mo_before mo_justSum mo_toldSum mo_allWays mo_lanes mo_sizes mo_cells mo_torn mo_had, _, _, _] := hD
                refine lv_aload_n hx hb dX8_findOrders_115 rfl (lv_at hl 1 rfl) ?_
                refine lv_dup hx hb dX8_findOrders_116 rfl ?_
                refine va_get (D := D) (ci := 7) (v := .int (nI hea)) (C := RX8) (T := TX8) (N := 32) hx hb hts hiX8 hown hK hP 0 rfl rfl 22 (Nat.le_of_ble_eq_true rfl) fl210 (fun _ h9 => h9) rfl dX8_findOrders_117 ?_
                refine lv_iconst (v := 1) hx hb dX8_findOrders_120 hki_1 ?_
                refine lv_aload_n hx hb dX8_findOrders_121 rfl (lv_at hl 1 rfl) ?_
                refine va_get (D := D) (ci := 7) (v := .ref mo_row) (C := RX8) (T := TX8) (N := 32) hx hb hts hiX8 hown hK hP 0 rfl rfl 18 (Nat.le_of_ble_eq_true rfl) fl26 (fun _ h9 => h9) rfl dX8_findOrders_122 ?_
                refine lv_iload_n hx hb dX8_findOrders_125 rfl (lv_at hl 2 rfl) ?_
                refine lv_iconst (v := 1) hx hb dX8_findOrders_126 hki_1 ?_
                refine lv_isub hx hb dX8_findOrders_127 ?_
                refine hs_topi (nI (n - 1)) (pk_sub (a := n) (b := 1) (by omega)) ?_
                refine va_iald hx hb hK hP 2 0 rfl rfl (vp_in_nI (show (n - 1) < 5 by omega) (by decide)) dX8_findOrders_128 ?_
                have hdn := (hw_7.2 ((n - 1)) (by omega)).2
                refine hs_topi (nI (hdg n nb ((n - 1)))) (by rw [nI_clamp (by omega)]; exact (hw_7.2 ((n - 1)) (by omega)).1) ?_
                refine lv_ishl hx hb dX8_findOrders_129 ?_
                refine lv_ior hx hb dX8_findOrders_130 ?_
                have hhe : hea ||| 2 ^ hdg n nb (n - 1) < 32 := Nat.or_lt_two_pow (n := 5) (by omega) (Nat.pow_lt_pow_right (by decide) (by omega))
                refine hs_topi (nI (hea ||| 2 ^ hdg n nb (n - 1))) (hs_or5 hea (by omega) (hdg n nb (n - 1)) (by omega)) ?_
                refine va_put (D := D) (ci := 7) (v := .int (nI (hea ||| 2 ^ hdg n nb (n - 1)))) (ty := .int) (C := RX8) (T := TX8) (N := 32) hx hb hts hiX8 tyX8 tyX8_ok nmX8 hown hK hP hD hS 0 rfl rfl 22 (Nat.le_of_ble_eq_true rfl) fl210 (fun _ h9 => h9) rfl (by decide +kernel) rfl rfl (Nat.le_of_ble_eq_true rfl) dX8_findOrders_131 (fun H locs hP hD hS => ?_)
                have hP : va_P D vwCl [oq7 mo mo_st mo_at mo_isKept (nI mo_pe) (nI mo_hm) mo_draft (nI mo_dp) (nI mo_dh) mo_toldLines mo_highest mo_tape (nI mo_tl) (nI mo_ps) (nI mo_fr) mo_sort mo_value (nI mo_ft) mo_wrongAt mo_row (nI (om + 1)) (nI nb) (nI (lig ||| 2 ^ hdg n nb 0)) (nI (hea ||| 2 ^ hdg n nb (n - 1))) mo_before mo_justSum mo_toldSum mo_allWays mo_lanes mo_sizes mo_cells mo_torn mo_had, _, _, _] H := hP
                have hD : va_D A [oq7 mo mo_st mo_at mo_isKept (nI mo_pe) (nI mo_hm) mo_draft (nI mo_dp) (nI mo_dh) mo_toldLines mo_highest mo_tape (nI mo_tl) (nI mo_ps) (nI mo_fr) mo_sort mo_value (nI mo_ft) mo_wrongAt mo_row (nI (om + 1)) (nI nb) (nI (lig ||| 2 ^ hdg n nb 0)) (nI (hea ||| 2 ^ hdg n nb (n - 1))) mo_before mo_justSum mo_toldSum mo_allWays mo_lanes mo_sizes mo_cells mo_torn mo_had, _, _, _] := hD
                refine lv_iconst (v := 0) hx hb dX8_findOrders_134 hki_0 ?_
                refine lv_istore_n (lv' := [(3, .int 0), (2, .int (nI nb)), (0, .ref mo), (1, .int (nI n))]) hx hb dX8_findOrders_135 rfl hl (Nat.le_of_ble_eq_true rfl) rfl (fun ls hl => ?_)
                refine hs_while (σ := Nat × (Nat → Int32)) (fun x => x.1 ≤ n ∧ ∀ a b, a < n → b < n → x.2 (5 * a + b) = nI (cntB (gaB n lt hv np a b) nb + bfn (hdg n nb) n x.1 0 a b)) (fun x => n - x.1) (fun x => [oq7 mo mo_st mo_at mo_isKept (nI mo_pe) (nI mo_hm) mo_draft (nI mo_dp) (nI mo_dh) mo_toldLines mo_highest mo_tape (nI mo_tl) (nI mo_ps) (nI mo_fr) mo_sort mo_value (nI mo_ft) mo_wrongAt mo_row (nI (om + 1)) (nI nb) (nI (lig ||| 2 ^ hdg n nb 0)) (nI (hea ||| 2 ^ hdg n nb (n - 1))) mo_before mo_justSum mo_toldSum mo_allWays mo_lanes mo_sizes mo_cells mo_torn mo_had, oqI k mo_at 44 (af), oqI k mo_row 5 (u_8), oqI k mo_before 25 ((x.2))]) (fun x => [(3, .int (nI (x.1))), (2, .int (nI nb)), (0, .ref mo), (1, .int (nI n))]) ?_ (0, bh) ?_ hP hD hS hl
                · intro x hI ih136 H locs ls hP hD hS hl
                  obtain ⟨i, bi⟩ := x
                  try dsimp only at hI
                  have hP : va_P D vwCl [_, _, _, oqI k mo_before 25 (bi)] H := hP
                  have hD : va_D A [_, _, _, oqI k mo_before 25 (bi)] := hD
                  have hl : lv_has ls 5 [(3, .int (nI i)), (2, .int (nI nb)), (0, .ref mo), (1, .int (nI n))] := hl
                  refine lv_iload_n hx hb dX8_findOrders_136 rfl (lv_at hl 0 rfl) ?_
                  refine lv_iload_n hx hb dX8_findOrders_137 rfl (lv_at hl 3 rfl) ?_
                  refine lv_icmp_ge (tgt := 189) hx hb dX8_findOrders_138 rfl (fun c_17 => ?_) (fun c_17 => ?_)
                  · have nc_17 : n ≤ i := (nI_leI (a := n) (b := i) (by omega) (by omega)).mp c_17
                    refine lv_iinc (v := nI (nb + 1)) (lv' := [(2, .int (nI (nb + 1))), (3, .int (nI i)), (0, .ref mo), (1, .int (nI n))]) hx hb dX8_findOrders_189 hl (k := 1) rfl (nI_add (nb) 1) (Nat.le_of_ble_eq_true rfl) rfl (fun ls hl => ?_)
                    refine lv_goto (tgt := 43) hx hb dX8_findOrders_192 rfl ?_
                    exact ih43 (nb + 1, u_8, bi, om + 1, nb, lig ||| 2 ^ hdg n nb 0, hea ||| 2 ^ hdg n nb (n - 1)) (by (try dsimp only); exact ⟨by omega, by omega, by omega, hlg, hhe, (by have h9 := foI_yes hI43.2.2.2.2.2 hg (bj_end hrw (by omega) hI.2); rw [if_pos nc_14] at h9; exact h9)⟩) (by (try dsimp only); omega) _ _ _ hP hD hS (lv_sub hl [0, 2, 3] rfl)
                  · have nc_17 : ¬ n ≤ i := fun hq9 => c_17 ((nI_leI (a := n) (b := i) (by omega) (by omega)).mpr hq9)
                    refine lv_iload_n hx hb dX8_findOrders_141 rfl (lv_at hl 0 rfl) ?_
                    refine lv_iconst (v := 1) hx hb dX8_findOrders_142 hki_1 ?_
                    refine lv_iadd hx hb dX8_findOrders_143 ?_
                    refine hs_topi (nI (i + 1)) (nI_add (i) (1)) ?_
                    refine lv_istore (lv' := [(4, .int (nI (i + 1))), (3, .int (nI i)), (2, .int (nI nb)), (0, .ref mo), (1, .int (nI n))]) hx hb dX8_findOrders_144 hl (Nat.le_of_ble_eq_true rfl) rfl (fun ls hl => ?_)
                    refine hs_while (σ := Nat × (Nat → Int32)) (fun x => i < x.1 ∧ x.1 ≤ n ∧ ∀ a b, a < n → b < n → x.2 (5 * a + b) = nI (cntB (gaB n lt hv np a b) nb + bfn (hdg n nb) n i x.1 a b)) (fun x => n - x.1) (fun x => [oq7 mo mo_st mo_at mo_isKept (nI mo_pe) (nI mo_hm) mo_draft (nI mo_dp) (nI mo_dh) mo_toldLines mo_highest mo_tape (nI mo_tl) (nI mo_ps) (nI mo_fr) mo_sort mo_value (nI mo_ft) mo_wrongAt mo_row (nI (om + 1)) (nI nb) (nI (lig ||| 2 ^ hdg n nb 0)) (nI (hea ||| 2 ^ hdg n nb (n - 1))) mo_before mo_justSum mo_toldSum mo_allWays mo_lanes mo_sizes mo_cells mo_torn mo_had, oqI k mo_at 44 (af), oqI k mo_row 5 (u_8), oqI k mo_before 25 ((x.2))]) (fun x => [(4, .int (nI (x.1))), (3, .int (nI i)), (2, .int (nI nb)), (0, .ref mo), (1, .int (nI n))]) ?_ (i + 1, bi) ?_ hP hD hS hl
                    · intro x hI ih146 H locs ls hP hD hS hl
                      obtain ⟨k4, bj⟩ := x
                      try dsimp only at hI
                      have hP : va_P D vwCl [_, _, _, oqI k mo_before 25 (bj)] H := hP
                      have hD : va_D A [_, _, _, oqI k mo_before 25 (bj)] := hD
                      have hl : lv_has ls 5 [(4, .int (nI k4)), (3, .int (nI i)), (2, .int (nI nb)), (0, .ref mo), (1, .int (nI n))] := hl
                      refine lv_iload hx hb dX8_findOrders_146 (lv_at hl 0 rfl) ?_
                      refine lv_iload_n hx hb dX8_findOrders_148 rfl (lv_at hl 4 rfl) ?_
                      refine lv_icmp_ge (tgt := 183) hx hb dX8_findOrders_149 rfl (fun c_18 => ?_) (fun c_18 => ?_)
                      · have nc_18 : n ≤ k4 := (nI_leI (a := n) (b := k4) (by omega) (by omega)).mp c_18
                        refine lv_iinc (v := nI (i + 1)) (lv' := [(3, .int (nI (i + 1))), (4, .int (nI k4)), (2, .int (nI nb)), (0, .ref mo), (1, .int (nI n))]) hx hb dX8_findOrders_183 hl (k := 1) rfl (nI_add (i) 1) (Nat.le_of_ble_eq_true rfl) rfl (fun ls hl => ?_)
                        refine lv_goto (tgt := 136) hx hb dX8_findOrders_186 rfl ?_
                        exact ih136 (i + 1, bj) (by (try dsimp only); exact ⟨by omega, bj_out (C := (fun a b => cntB (gaB n lt hv np a b) nb)) hrw (by omega) hI.2.2⟩) (by (try dsimp only); omega) _ _ _ hP hD hS (lv_sub hl [0, 2, 3, 4] rfl)
                      · have nc_18 : ¬ n ≤ k4 := fun hq9 => c_18 ((nI_leI (a := n) (b := k4) (by omega) (by omega)).mpr hq9)
                        refine lv_aload_n hx hb dX8_findOrders_152 rfl (lv_at hl 3 rfl) ?_
                        refine va_get (D := D) (ci := 7) (v := .ref mo_before) (C := RX8) (T := TX8) (N := 32) hx hb hts hiX8 hown hK hP 0 rfl rfl 23 (Nat.le_of_ble_eq_true rfl) fl29 (fun _ h9 => h9) rfl dX8_findOrders_153 ?_
                        refine lv_iconst (v := 5) hx hb dX8_findOrders_156 hki_5 ?_
                        refine lv_aload_n hx hb dX8_findOrders_157 rfl (lv_at hl 3 rfl) ?_
                        refine va_get (D := D) (ci := 7) (v := .ref mo_row) (C := RX8) (T := TX8) (N := 32) hx hb hts hiX8 hown hK hP 0 rfl rfl 18 (Nat.le_of_ble_eq_true rfl) fl26 (fun _ h9 => h9) rfl dX8_findOrders_158 ?_
                        refine lv_iload_n hx hb dX8_findOrders_161 rfl (lv_at hl 1 rfl) ?_
                        refine va_iald hx hb hK hP 2 0 rfl rfl (vp_in_nI (show i < 5 by omega) (by decide)) dX8_findOrders_162 ?_
                        have hdi := (hw_7.2 (i) (by omega)).2
                        refine hs_topi (nI (hdg n nb (i))) (by rw [nI_clamp (by omega)]; exact (hw_7.2 (i) (by omega)).1) ?_
                        refine lv_imul hx hb dX8_findOrders_163 ?_
                        refine hs_topi (nI (5 * (hdg n nb (i)))) (pk_mul (5) ((hdg n nb (i)))) ?_
                        refine lv_aload_n hx hb dX8_findOrders_164 rfl (lv_at hl 3 rfl) ?_
                        refine va_get (D := D) (ci := 7) (v := .ref mo_row) (C := RX8) (T := TX8) (N := 32) hx hb hts hiX8 hown hK hP 0 rfl rfl 18 (Nat.le_of_ble_eq_true rfl) fl26 (fun _ h9 => h9) rfl dX8_findOrders_165 ?_
                        refine lv_iload hx hb dX8_findOrders_168 (lv_at hl 0 rfl) ?_
                        refine va_iald hx hb hK hP 2 0 rfl rfl (vp_in_nI (show k4 < 5 by omega) (by decide)) dX8_findOrders_170 ?_
                        have hdk := (hw_7.2 (k4) (by omega)).2
                        refine hs_topi (nI (hdg n nb (k4))) (by rw [nI_clamp (by omega)]; exact (hw_7.2 (k4) (by omega)).1) ?_
                        refine lv_iadd hx hb dX8_findOrders_171 ?_
                        refine hs_topi (nI ((5 * (hdg n nb (i))) + (hdg n nb (k4)))) (nI_add ((5 * (hdg n nb (i)))) ((hdg n nb (k4)))) ?_
                        refine lv_dup2_11 hx hb dX8_findOrders_172 rfl rfl ?_
                        refine va_iald hx hb hK hP 3 0 rfl rfl (vp_in_nI (show ((5 * (hdg n nb (i))) + (hdg n nb (k4))) < 25 by omega) (by decide)) dX8_findOrders_173 ?_
                        have hcl := cntB_le (g := gaB n lt hv np (hdg n nb i) (hdg n nb k4)) nb
                        refine hs_topi (nI (cntB (gaB n lt hv np (hdg n nb i) (hdg n nb k4)) nb)) (by rw [nI_clamp (by omega)]; exact bj_read (C := (fun a b => cntB (gaB n lt hv np a b) nb)) hrw hI.2.2 (by omega) (by omega)) ?_
                        refine lv_iconst (v := 1) hx hb dX8_findOrders_174 hki_1 ?_
                        refine lv_iadd hx hb dX8_findOrders_175 ?_
                        refine hs_topi (nI ((cntB (gaB n lt hv np (hdg n nb i) (hdg n nb k4)) nb) + 1)) (nI_add ((cntB (gaB n lt hv np (hdg n nb i) (hdg n nb k4)) nb)) (1)) ?_
                        refine va_iast hx hb hK hP hD hS 3 0 rfl rfl (vp_in_nI (show ((5 * (hdg n nb (i))) + (hdg n nb (k4))) < 25 by omega) (by decide)) dX8_findOrders_176 (fun H locs hP hD hS => ?_)
                        have hP : va_P D vwCl [_, _, _, oqI k mo_before 25 (upd bj ((nI ((5 * (hdg n nb (i))) + (hdg n nb (k4)))).toNatClampNeg) (nI ((cntB (gaB n lt hv np (hdg n nb i) (hdg n nb k4)) nb) + 1)))] H := hP
                        have hD : va_D A [_, _, _, oqI k mo_before 25 (upd bj ((nI ((5 * (hdg n nb (i))) + (hdg n nb (k4)))).toNatClampNeg) (nI ((cntB (gaB n lt hv np (hdg n nb i) (hdg n nb k4)) nb) + 1)))] := hD
                        refine lv_iinc (v := nI (k4 + 1)) (lv' := [(4, .int (nI (k4 + 1))), (3, .int (nI i)), (2, .int (nI nb)), (0, .ref mo), (1, .int (nI n))]) hx hb dX8_findOrders_177 hl (k := 0) rfl (nI_add (k4) 1) (Nat.le_of_ble_eq_true rfl) rfl (fun ls hl => ?_)
                        refine lv_goto (tgt := 146) hx hb dX8_findOrders_180 rfl ?_
                        exact ih146 (k4 + 1, upd bj ((nI ((5 * (hdg n nb (i))) + (hdg n nb (k4)))).toNatClampNeg) (nI ((cntB (gaB n lt hv np (hdg n nb i) (hdg n nb k4)) nb) + 1))) (by (try dsimp only); exact ⟨by omega, by omega, bj_step (C := (fun a b => cntB (gaB n lt hv np a b) nb)) hn hrw hI.2.2 hI.1 (by omega)⟩) (by (try dsimp only); omega) _ _ _ hP hD hS (lv_sub hl [0, 1, 2, 3, 4] rfl)
                    · (try dsimp only); exact ⟨by omega, by omega, bj_in (C := (fun a b => cntB (gaB n lt hv np a b) nb)) hI.2⟩
                · (try dsimp only); exact ⟨Nat.zero_le _, bj_start (C := (fun a b => cntB (gaB n lt hv np a b) nb)) hI.2.2.2.2.2.2.2.2.2⟩
      · (try dsimp only); exact ⟨Nat.zero_le _, Nat.le_refl _, Nat.le_refl _, by decide, by decide, foI_0 hn (fun j hj => hI.2 j (by omega))⟩
    · have nc_1 : ¬ 25 ≤ kk := fun hq9 => c_1 ((nI_leI (a := 25) (b := kk) (by omega) (by omega)).mpr hq9)
      refine lv_aload_n hx hb dX8_findOrders_28 rfl (lv_at hl 1 rfl) ?_
      refine va_get (D := D) (ci := 7) (v := .ref mo_before) (C := RX8) (T := TX8) (N := 32) hx hb hts hiX8 hown hK hP 0 rfl rfl 23 (Nat.le_of_ble_eq_true rfl) fl29 (fun _ h9 => h9) rfl dX8_findOrders_29 ?_
      refine lv_iload_n hx hb dX8_findOrders_32 rfl (lv_at hl 0 rfl) ?_
      refine lv_iconst (v := 0) hx hb dX8_findOrders_33 hki_0 ?_
      refine va_iast hx hb hK hP hD hS 3 0 rfl rfl (vp_in_nI (show kk < 25 by omega) (by decide)) dX8_findOrders_34 (fun H locs hP hD hS => ?_)
      have hP : va_P D vwCl [oq7 mo mo_st mo_at mo_isKept (nI mo_pe) (nI mo_hm) mo_draft (nI mo_dp) (nI mo_dh) mo_toldLines mo_highest mo_tape (nI mo_tl) (nI mo_ps) (nI mo_fr) mo_sort mo_value (nI mo_ft) mo_wrongAt mo_row 0 0 0 0 mo_before mo_justSum mo_toldSum mo_allWays mo_lanes mo_sizes mo_cells mo_torn mo_had, _, oqI k mo_row 5 (rf), oqI k mo_before 25 (upd bg ((nI kk).toNatClampNeg) 0)] H := hP
      have hD : va_D A [oq7 mo mo_st mo_at mo_isKept (nI mo_pe) (nI mo_hm) mo_draft (nI mo_dp) (nI mo_dh) mo_toldLines mo_highest mo_tape (nI mo_tl) (nI mo_ps) (nI mo_fr) mo_sort mo_value (nI mo_ft) mo_wrongAt mo_row 0 0 0 0 mo_before mo_justSum mo_toldSum mo_allWays mo_lanes mo_sizes mo_cells mo_torn mo_had, _, oqI k mo_row 5 (rf), oqI k mo_before 25 (upd bg ((nI kk).toNatClampNeg) 0)] := hD
      refine lv_iinc (v := nI (kk + 1)) (lv' := [(2, .int (nI (kk + 1))), (0, .ref mo), (1, .int (nI n))]) hx hb dX8_findOrders_35 hl (k := 0) rfl (nI_add (kk) 1) (Nat.le_of_ble_eq_true rfl) rfl (fun ls hl => ?_)
      refine lv_goto (tgt := 22) hx hb dX8_findOrders_38 rfl ?_
      exact ih22 (kk + 1, upd bg ((nI kk).toNatClampNeg) 0) (by (try dsimp only); exact ⟨by omega, fun j hj => if e : j = kk then hs_ue (by omega) e else (hs_uc (by omega) e).trans (hI.2 j (by omega))⟩) (by (try dsimp only); omega) _ _ _ hP hD hS (lv_sub hl [0, 1, 2] rfl)
  · (try dsimp only); exact ⟨Nat.zero_le _, fun j hj => absurd hj (Nat.not_lt_zero j)⟩
