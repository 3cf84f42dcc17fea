set_option maxHeartbeats 4000000 in
set_option maxRecDepth 100000 in
theorem gf_allWeights (l : Launch) (D : va_G) (k : Nat → ClassId) (sz : Nat) (t : Nat) (t_a : Nat → Nat) (t_N : Nat → Nat) (t_J : Nat → Int32) (t_F : Nat → Nat → Int32) (hN0 : thN t_N) : MI l yX6_allWeights wsX6_allWeights ({ frames := 0, cells := 0, slots := 0, locals := 0 }) D k [.ref t] [oqT t t_a t_N t_J, oqF0 k t_a t_F, oqF1 k t_a t_F, oqF2 k t_a t_F, oqF3 k t_a t_F, oqF4 k t_a t_F, oqF5 k t_a t_F, oqF6 k t_a t_F] sz (fun (r : Int32) (u : Unit) => r = smW (t_F 0) (t_N 0)) (fun (u : Unit) => [oqT t t_a t_N t_J, oqF0 k t_a t_F, oqF1 k t_a t_F, oqF2 k t_a t_F, oqF3 k t_a t_F, oqF4 k t_a t_F, oqF5 k t_a t_F, oqF6 k t_a t_F]) := by
  refine Met.ofW (cc := cX6_allWeights) (maxL := 3) (ret := (some .int)) hpn_X6 rfl ?_
  intro p e s m args below meth c s₁ B hml hv
  obtain ⟨rfl, hsz, hP, hK, hD0, hN⟩ := hv
  have hx := B.exec
  have hb := B.bytes
  have hr := B.returns
  have hlocks := B.notSynchronized
  have hts := atoms_spec (ws := wsX6_allWeights) B.pre
  have hown := findClass_of_methodNamed B.named
  have hown : s.vm.findClass RX6 = some m.cls := hown
  have hiX6 : ∀ w ∈ u_ws RX6 TX6 15, w ∈ wsX6_allWeights := fun w9 hw9 => List.mem_cons_of_mem _ (igX6 w9 hw9)
  have fl36 := hts (.fieldLink RX6 36 "HalfScales$Thing" "cellCount" "I") (List.mem_cons_of_mem _ (hs_inG 1 51 rfl rfl))
  have fl9 := hts (.fieldLink RX6 9 "HalfScales$Thing" "weights" "[I") (List.mem_cons_of_mem _ (hs_inG 1 35 rfl rfl))
  obtain ⟨I0, I1, ⟨I2, I2b⟩, I3, I4⟩ := hN0
  subst hsz
  have hD := hD0.self (sz := s.heap.size)
  generalize hAe : va_A [oqT t t_a t_N t_J, oqF0 k t_a t_F, oqF1 k t_a t_F, oqF2 k t_a t_F, oqF3 k t_a t_F, oqF4 k t_a t_F, oqF5 k t_a t_F, oqF6 k t_a t_F] s.heap.size = A at hD ⊢
  have hA : ∀ q : Nat, s.heap.size ≤ q → A q := fun q h => by rw [← hAe]; exact Or.inr h
  have hS : va_S A s.heap s.heap [] := va_S.rf
  have hl := lv_entry ([.ref t]) (n := 3) (Nat.le_of_ble_eq_true rfl)
  rw [lg_entry_eq]
  generalize (lg_sl ([.ref t]) ++ List.replicate (3 - (lg_sl ([.ref t])).length) Slot.unset).toArray = ls at hl ⊢
  have hl : lv_has ls 3 [(0, .ref t)] := hl
  have hP : va_P D vwCl [oqT t t_a t_N t_J, oqF0 k t_a t_F, oqF1 k t_a t_F, oqF2 k t_a t_F, oqF3 k t_a t_F, oqF4 k t_a t_F, oqF5 k t_a t_F, oqF6 k t_a t_F] s.heap := hP
  refine lv_iconst (v := 0) hx hb dX6_allWeights_0 hki_0 ?_
  refine lv_istore_n (lv' := [(1, .int 0), (0, .ref t)]) hx hb dX6_allWeights_1 rfl hl (Nat.le_of_ble_eq_true rfl) rfl (fun ls hl => ?_)
  refine lv_iconst (v := 0) hx hb dX6_allWeights_2 hki_0 ?_
  refine lv_istore_n (lv' := [(2, .int 0), (1, .int 0), (0, .ref t)]) hx hb dX6_allWeights_3 rfl hl (Nat.le_of_ble_eq_true rfl) rfl (fun ls hl => ?_)
  refine hs_while (σ := Int32 × Nat) (fun x => x.2 ≤ t_N 0 ∧ x.1 = smW (t_F 0) x.2) (fun x => t_N 0 - x.2) (fun x => [oqT t t_a t_N t_J, oqF0 k t_a t_F, oqF1 k t_a t_F, oqF2 k t_a t_F, oqF3 k t_a t_F, oqF4 k t_a t_F, oqF5 k t_a t_F, oqF6 k t_a t_F]) (fun x => [(2, .int (nI (x.2))), (1, .int (x.1)), (0, .ref t)]) ?_ (0, 0) ?_ hP hD hS hl
  · intro x hI ih4 H locs ls hP hD hS hl
    obtain ⟨sum, i⟩ := x
    try dsimp only at hI
    have hP : va_P D vwCl [oqT t t_a t_N t_J, oqF0 k t_a t_F, oqF1 k t_a t_F, oqF2 k t_a t_F, oqF3 k t_a t_F, oqF4 k t_a t_F, oqF5 k t_a t_F, oqF6 k t_a t_F] H := hP
    have hD : va_D A [oqT t t_a t_N t_J, oqF0 k t_a t_F, oqF1 k t_a t_F, oqF2 k t_a t_F, oqF3 k t_a t_F, oqF4 k t_a t_F, oqF5 k t_a t_F, oqF6 k t_a t_F] := hD
    have hl : lv_has ls 3 [(2, .int (nI i)), (1, .int sum), (0, .ref t)] := hl
    refine lv_iload_n hx hb dX6_allWeights_4 rfl (lv_at hl 0 rfl) ?_
    refine lv_aload_n hx hb dX6_allWeights_5 rfl (lv_at hl 2 rfl) ?_
    refine va_get (D := D) (ci := 5) (v := .int (nI (t_N 0))) (C := RX6) (T := TX6) (N := 15) hx hb hts hiX6 hown hK hP 0 rfl rfl 7 (Nat.le_of_ble_eq_true rfl) fl36 (fun _ h9 => h9) rfl dX6_allWeights_6 ?_
    refine lv_icmp_ge (tgt := 27) hx hb dX6_allWeights_9 rfl (fun c_1 => ?_) (fun c_1 => ?_)
    · have nc_1 : (t_N 0) ≤ i := (nI_leI (a := (t_N 0)) (b := i) (by omega) (by omega)).mp c_1
      refine lv_iload_n hx hb dX6_allWeights_27 rfl (lv_at hl 1 rfl) ?_
      exact hs_iret hx hb hr hlocks hK hP hD hS () [0, 1, 2, 3, 4, 5, 6, 7] rfl (hs_upnd rfl) dX6_allWeights_28 (by rw [hI.2, show i = t_N 0 by omega])
    · have nc_1 : ¬ (t_N 0) ≤ i := fun hq9 => c_1 ((nI_leI (a := (t_N 0)) (b := i) (by omega) (by omega)).mpr hq9)
      refine lv_iload_n hx hb dX6_allWeights_12 rfl (lv_at hl 1 rfl) ?_
      refine lv_aload_n hx hb dX6_allWeights_13 rfl (lv_at hl 2 rfl) ?_
      refine va_get (D := D) (ci := 5) (v := .ref (t_a 0)) (C := RX6) (T := TX6) (N := 15) hx hb hts hiX6 hown hK hP 0 rfl rfl 0 (Nat.le_of_ble_eq_true rfl) fl9 (fun _ h9 => h9) rfl dX6_allWeights_14 ?_
      refine lv_iload_n hx hb dX6_allWeights_17 rfl (lv_at hl 0 rfl) ?_
      refine va_iald hx hb hK hP 1 0 rfl rfl (vp_in_nI (show i < 8 by omega) (by decide)) dX6_allWeights_18 ?_
      refine hs_topi (t_F 0 i) (by rw [nI_clamp (by omega)]) ?_
      refine lv_iadd hx hb dX6_allWeights_19 ?_
      refine lv_istore_n (lv' := [(1, .int (sum + (t_F 0 i))), (2, .int (nI i)), (0, .ref t)]) hx hb dX6_allWeights_20 rfl hl (Nat.le_of_ble_eq_true rfl) rfl (fun ls hl => ?_)
      refine lv_iinc (v := nI (i + 1)) (lv' := [(2, .int (nI (i + 1))), (1, .int (sum + (t_F 0 i))), (0, .ref t)]) hx hb dX6_allWeights_21 hl (k := 1) rfl (nI_add (i) 1) (Nat.le_of_ble_eq_true rfl) rfl (fun ls hl => ?_)
      refine lv_goto (tgt := 4) hx hb dX6_allWeights_24 rfl ?_
      exact ih4 (sum + (t_F 0 i), i + 1) (by (try dsimp only); exact ⟨by omega, by rw [hI.2]; rfl⟩) (by (try dsimp only); omega) _ _ _ hP hD hS (lv_sub hl [0, 1, 2] rfl)
  · (try dsimp only); exact ⟨Nat.zero_le _, rfl⟩

set_option maxHeartbeats 4000000 in
set_option maxRecDepth 100000 in
theorem gr_allWeights (l : Launch) (D : va_G) (k : Nat → ClassId) (sz : Nat) (mo : Nat) (mo_st : Nat) (mo_at : Nat) (mo_isKept : Nat) (mo_pe : Nat) (mo_hm : Nat) (mo_draft : Nat) (mo_dp : Nat) (mo_dh : Nat) (mo_toldLines : Int32) (mo_highest : Int32) (mo_tape : Nat) (mo_tl : Nat) (mo_ps : Nat) (mo_fr : Nat) (mo_sort : Int32) (mo_value : Int32) (mo_ft : Nat) (mo_wrongAt : Int32) (mo_row : Nat) (mo_orderMany : Int32) (mo_fo : Nat) (mo_lightest : Int32) (mo_heaviest : Int32) (mo_before : Nat) (mo_justSum : Int64) (mo_toldSum : Int64) (mo_allWays : Int64) (mo_lanes : Nat) (mo_sizes : Nat) (mo_cells : Nat) (mo_torn : Int32) (mo_had : Nat) (af : Nat → Int32) (c0 : Nat) (e0 : af 0 = nI c0) (h0 : c0 ≤ 8) : MI l yX8_allWeights wsX8_allWeights ({ frames := 0, cells := 0, slots := 0, locals := 0 }) D k [.ref mo] [oq7 mo mo_st mo_at mo_isKept (nI mo_pe) (nI mo_hm) mo_draft (nI mo_dp) (nI mo_dh) mo_toldLines mo_highest mo_tape (nI mo_tl) (nI mo_ps) (nI mo_fr) mo_sort mo_value (nI mo_ft) mo_wrongAt mo_row mo_orderMany (nI mo_fo) mo_lightest mo_heaviest mo_before mo_justSum mo_toldSum mo_allWays mo_lanes mo_sizes mo_cells mo_torn mo_had, oqI k mo_at 44 (af)] sz (fun (r : Int32) (u : Unit) => r = smW (fun j => af (1 + j)) c0) (fun (u : Unit) => [oq7 mo mo_st mo_at mo_isKept (nI mo_pe) (nI mo_hm) mo_draft (nI mo_dp) (nI mo_dh) mo_toldLines mo_highest mo_tape (nI mo_tl) (nI mo_ps) (nI mo_fr) mo_sort mo_value (nI mo_ft) mo_wrongAt mo_row mo_orderMany (nI mo_fo) mo_lightest mo_heaviest mo_before mo_justSum mo_toldSum mo_allWays mo_lanes mo_sizes mo_cells mo_torn mo_had, oqI k mo_at 44 (af)]) := by
  refine Met.ofW (cc := cX8_allWeights) (maxL := 3) (ret := (some .int)) hpn_X8 rfl ?_
  intro p e s m args below meth c s₁ B hml hv
  obtain ⟨rfl, hsz, hP, hK, hD0, hN⟩ := hv
  have hx := B.exec
  have hb := B.bytes
  have hr := B.returns
  have hlocks := B.notSynchronized
  have hts := atoms_spec (ws := wsX8_allWeights) B.pre
  have hown := findClass_of_methodNamed B.named
  have hown : s.vm.findClass RX8 = some m.cls := hown
  have hiX8 : ∀ w ∈ u_ws RX8 TX8 32, w ∈ wsX8_allWeights := fun w9 hw9 => List.mem_cons_of_mem _ (igX8 w9 hw9)
  have fl13 := hts (.fieldLink RX8 13 "HalfScalesModel" "at" "[I") (List.mem_cons_of_mem _ (hs_inG 4 81 rfl rfl))
  subst hsz
  have hD := hD0.self (sz := s.heap.size)
  generalize hAe : va_A [oq7 mo mo_st mo_at mo_isKept (nI mo_pe) (nI mo_hm) mo_draft (nI mo_dp) (nI mo_dh) mo_toldLines mo_highest mo_tape (nI mo_tl) (nI mo_ps) (nI mo_fr) mo_sort mo_value (nI mo_ft) mo_wrongAt mo_row mo_orderMany (nI mo_fo) mo_lightest mo_heaviest mo_before mo_justSum mo_toldSum mo_allWays mo_lanes mo_sizes mo_cells mo_torn mo_had, oqI k mo_at 44 (af)] s.heap.size = A at hD ⊢
  have hA : ∀ q : Nat, s.heap.size ≤ q → A q := fun q h => by rw [← hAe]; exact Or.inr h
  have hS : va_S A s.heap s.heap [] := va_S.rf
  have hl := lv_entry ([.ref mo]) (n := 3) (Nat.le_of_ble_eq_true rfl)
  rw [lg_entry_eq]
  generalize (lg_sl ([.ref mo]) ++ List.replicate (3 - (lg_sl ([.ref mo])).length) Slot.unset).toArray = ls at hl ⊢
  have hl : lv_has ls 3 [(0, .ref mo)] := hl
  have hP : va_P D vwCl [oq7 mo mo_st mo_at mo_isKept (nI mo_pe) (nI mo_hm) mo_draft (nI mo_dp) (nI mo_dh) mo_toldLines mo_highest mo_tape (nI mo_tl) (nI mo_ps) (nI mo_fr) mo_sort mo_value (nI mo_ft) mo_wrongAt mo_row mo_orderMany (nI mo_fo) mo_lightest mo_heaviest mo_before mo_justSum mo_toldSum mo_allWays mo_lanes mo_sizes mo_cells mo_torn mo_had, oqI k mo_at 44 (af)] s.heap := hP
  refine lv_iconst (v := 0) hx hb dX8_allWeights_0 hki_0 ?_
  refine lv_istore_n (lv' := [(1, .int 0), (0, .ref mo)]) hx hb dX8_allWeights_1 rfl hl (Nat.le_of_ble_eq_true rfl) rfl (fun ls hl => ?_)
  refine lv_iconst (v := 0) hx hb dX8_allWeights_2 hki_0 ?_
  refine lv_istore_n (lv' := [(2, .int 0), (1, .int 0), (0, .ref mo)]) hx hb dX8_allWeights_3 rfl hl (Nat.le_of_ble_eq_true rfl) rfl (fun ls hl => ?_)
  refine hs_while (σ := Int32 × Nat) (fun x => x.2 ≤ c0 ∧ x.1 = smW (fun j => af (1 + j)) x.2) (fun x => c0 - x.2) (fun x => [oq7 mo mo_st mo_at mo_isKept (nI mo_pe) (nI mo_hm) mo_draft (nI mo_dp) (nI mo_dh) mo_toldLines mo_highest mo_tape (nI mo_tl) (nI mo_ps) (nI mo_fr) mo_sort mo_value (nI mo_ft) mo_wrongAt mo_row mo_orderMany (nI mo_fo) mo_lightest mo_heaviest mo_before mo_justSum mo_toldSum mo_allWays mo_lanes mo_sizes mo_cells mo_torn mo_had, oqI k mo_at 44 (af)]) (fun x => [(2, .int (nI (x.2))), (1, .int (x.1)), (0, .ref mo)]) ?_ (0, 0) ?_ hP hD hS hl
  · intro x hI ih4 H locs ls hP hD hS hl
    obtain ⟨sum, i⟩ := x
    try dsimp only at hI
    have hP : va_P D vwCl [oq7 mo mo_st mo_at mo_isKept (nI mo_pe) (nI mo_hm) mo_draft (nI mo_dp) (nI mo_dh) mo_toldLines mo_highest mo_tape (nI mo_tl) (nI mo_ps) (nI mo_fr) mo_sort mo_value (nI mo_ft) mo_wrongAt mo_row mo_orderMany (nI mo_fo) mo_lightest mo_heaviest mo_before mo_justSum mo_toldSum mo_allWays mo_lanes mo_sizes mo_cells mo_torn mo_had, oqI k mo_at 44 (af)] H := hP
    have hD : va_D A [oq7 mo mo_st mo_at mo_isKept (nI mo_pe) (nI mo_hm) mo_draft (nI mo_dp) (nI mo_dh) mo_toldLines mo_highest mo_tape (nI mo_tl) (nI mo_ps) (nI mo_fr) mo_sort mo_value (nI mo_ft) mo_wrongAt mo_row mo_orderMany (nI mo_fo) mo_lightest mo_heaviest mo_before mo_justSum mo_toldSum mo_allWays mo_lanes mo_sizes mo_cells mo_torn mo_had, oqI k mo_at 44 (af)] := hD
    have hl : lv_has ls 3 [(2, .int (nI i)), (1, .int sum), (0, .ref mo)] := hl
    refine lv_iload_n hx hb dX8_allWeights_4 rfl (lv_at hl 0 rfl) ?_
    refine lv_aload_n hx hb dX8_allWeights_5 rfl (lv_at hl 2 rfl) ?_
    refine va_get (D := D) (ci := 7) (v := .ref mo_at) (C := RX8) (T := TX8) (N := 32) hx hb hts hiX8 hown hK hP 0 rfl rfl 1 (Nat.le_of_ble_eq_true rfl) fl13 (fun _ h9 => h9) rfl dX8_allWeights_6 ?_
    refine lv_iconst (v := 0) hx hb dX8_allWeights_9 hki_0 ?_
    refine va_iald hx hb hK hP 1 0 rfl rfl (hs_in (by decide)) dX8_allWeights_10 ?_
    refine hs_topi (nI c0) e0 ?_
    refine lv_icmp_ge (tgt := 31) hx hb dX8_allWeights_11 rfl (fun c_1 => ?_) (fun c_1 => ?_)
    · have nc_1 : c0 ≤ i := (nI_leI (a := c0) (b := i) (by omega) (by omega)).mp c_1
      refine lv_iload_n hx hb dX8_allWeights_31 rfl (lv_at hl 1 rfl) ?_
      exact hs_iret hx hb hr hlocks hK hP hD hS () [0, 1] rfl (hs_upnd rfl) dX8_allWeights_32 (by rw [hI.2, show i = c0 by omega])
    · have nc_1 : ¬ c0 ≤ i := fun hq9 => c_1 ((nI_leI (a := c0) (b := i) (by omega) (by omega)).mpr hq9)
      refine lv_iload_n hx hb dX8_allWeights_14 rfl (lv_at hl 1 rfl) ?_
      refine lv_aload_n hx hb dX8_allWeights_15 rfl (lv_at hl 2 rfl) ?_
      refine va_get (D := D) (ci := 7) (v := .ref mo_at) (C := RX8) (T := TX8) (N := 32) hx hb hts hiX8 hown hK hP 0 rfl rfl 1 (Nat.le_of_ble_eq_true rfl) fl13 (fun _ h9 => h9) rfl dX8_allWeights_16 ?_
      refine lv_iconst (v := 1) hx hb dX8_allWeights_19 hki_1 ?_
      refine lv_iload_n hx hb dX8_allWeights_20 rfl (lv_at hl 0 rfl) ?_
      refine lv_iadd hx hb dX8_allWeights_21 ?_
      refine hs_topi (nI (1 + i)) (nI_add (1) (i)) ?_
      refine va_iald hx hb hK hP 1 0 rfl rfl (vp_in_nI (show (1 + i) < 44 by omega) (by decide)) dX8_allWeights_22 ?_
      refine hs_topi (af (1 + i)) (by rw [nI_clamp (by omega)]) ?_
      refine lv_iadd hx hb dX8_allWeights_23 ?_
      refine lv_istore_n (lv' := [(1, .int (sum + (af (1 + i)))), (2, .int (nI i)), (0, .ref mo)]) hx hb dX8_allWeights_24 rfl hl (Nat.le_of_ble_eq_true rfl) rfl (fun ls hl => ?_)
      refine lv_iinc (v := nI (i + 1)) (lv' := [(2, .int (nI (i + 1))), (1, .int (sum + (af (1 + i)))), (0, .ref mo)]) hx hb dX8_allWeights_25 hl (k := 1) rfl (nI_add (i) 1) (Nat.le_of_ble_eq_true rfl) rfl (fun ls hl => ?_)
      refine lv_goto (tgt := 4) hx hb dX8_allWeights_28 rfl ?_
      exact ih4 (sum + (af (1 + i)), i + 1) (by (try dsimp only); exact ⟨by omega, by rw [hI.2]; rfl⟩) (by (try dsimp only); omega) _ _ _ hP hD hS (lv_sub hl [0, 1, 2] rfl)
  · (try dsimp only); exact ⟨Nat.zero_le _, rfl⟩

set_option maxHeartbeats 4000000 in
set_option maxRecDepth 100000 in
theorem gpf_rule (l : Launch) (D : va_G) (k : Nat → ClassId) (sz : Nat) (h : Nat) (h_now : Nat) (h_trial : Nat) (h_images : Nat) (h_imageThere : Nat) (h_teller : Nat) (h_ranks : Nat) (h_court : Nat) (h_sheets : Nat) (h_lf : Int32) (h_lt : Int32) (n_a : Nat → Nat) (n_N : Nat → Nat) (n_J : Nat → Int32) (n_F : Nat → Nat → Int32) (what : Int32) (hN0 : thN n_N) (hF : thF n_N n_F) (h2 : 2 ≤ n_N 0) : MI l yX7_rule wsX7_rule ({ frames := 1, cells := 0, slots := 0, locals := 22 }) D k [.ref h, .int what] [oq6 h h_now h_trial h_images h_imageThere h_teller h_ranks h_court h_sheets h_lf h_lt, oqT h_now n_a n_N n_J, oqF0 k n_a n_F, oqF1 k n_a n_F, oqF2 k n_a n_F, oqF3 k n_a n_F, oqF4 k n_a n_F, oqF5 k n_a n_F, oqF6 k n_a n_F] sz (fun (r : Int32) (u : Unit) => r = A_rl (nI (n_N 0)) (nI (n_N 1)) (n_J 0) (n_J 1) (n_J 2) (nI (n_N 2)) (nI (n_N 3)) (smW (n_F 0) (n_N 0)) what) (fun (u : Unit) => [oq6 h h_now h_trial h_images h_imageThere h_teller h_ranks h_court h_sheets h_lf h_lt, oqT h_now n_a n_N n_J, oqF0 k n_a n_F, oqF1 k n_a n_F, oqF2 k n_a n_F, oqF3 k n_a n_F, oqF4 k n_a n_F, oqF5 k n_a n_F, oqF6 k n_a n_F]) := by
  refine Met.ofW (cc := cX7_rule) (maxL := 2) (ret := (some .int)) hpn_X7 rfl ?_
  intro p e s m args below meth c s₁ B hml hv
  obtain ⟨rfl, hsz, hP, hK, hD0, hN⟩ := hv
  have hx := B.exec
  have hb := B.bytes
  have hr := B.returns
  have hlocks := B.notSynchronized
  have hts := atoms_spec (ws := wsX7_rule) B.pre
  have hown := findClass_of_methodNamed B.named
  have hown : s.vm.findClass RX7 = some m.cls := hown
  have hiX6 : ∀ w ∈ u_ws RX6 TX6 15, w ∈ wsX7_rule := fun w9 hw9 => List.mem_cons_of_mem _ (igX6 w9 hw9)
  have hiX7 : ∀ w ∈ u_ws RX7 TX7 10, w ∈ wsX7_rule := fun w9 hw9 => List.mem_cons_of_mem _ (igX7 w9 hw9)
  have fl10 := hts (.fieldLink RX7 10 "HalfScales" "now" "LHalfScales$Thing;") (List.mem_cons_of_mem _ (hs_inG 1 215 rfl rfl))
  have fl93 := hts (.fieldLink RX7 93 "HalfScales$Thing" "cellCount" "I") (List.mem_cons_of_mem _ (hs_inG 1 53 rfl rfl))
  have fl96 := hts (.fieldLink RX7 96 "HalfScales$Thing" "peopleCount" "I") (List.mem_cons_of_mem _ (hs_inG 1 57 rfl rfl))
  have fl99 := hts (.fieldLink RX7 99 "HalfScales$Thing" "slip" "I") (List.mem_cons_of_mem _ (hs_inG 1 61 rfl rfl))
  have fl102 := hts (.fieldLink RX7 102 "HalfScales$Thing" "fine" "I") (List.mem_cons_of_mem _ (hs_inG 1 65 rfl rfl))
  have fl105 := hts (.fieldLink RX7 105 "HalfScales$Thing" "appealCount" "I") (List.mem_cons_of_mem _ (hs_inG 1 67 rfl rfl))
  have fl108 := hts (.fieldLink RX7 108 "HalfScales$Thing" "halfCount" "I") (List.mem_cons_of_mem _ (hs_inG 1 71 rfl rfl))
  have fl111 := hts (.fieldLink RX7 111 "HalfScales$Thing" "pairCount" "I") (List.mem_cons_of_mem _ (hs_inG 1 75 rfl rfl))
  have hNn := hN0
  obtain ⟨I0, I1, ⟨I2, I2b⟩, I3, I4⟩ := hN0
  subst hsz
  have hD := hD0.self (sz := s.heap.size)
  generalize hAe : va_A [oq6 h h_now h_trial h_images h_imageThere h_teller h_ranks h_court h_sheets h_lf h_lt, oqT h_now n_a n_N n_J, oqF0 k n_a n_F, oqF1 k n_a n_F, oqF2 k n_a n_F, oqF3 k n_a n_F, oqF4 k n_a n_F, oqF5 k n_a n_F, oqF6 k n_a n_F] s.heap.size = A at hD ⊢
  have hA : ∀ q : Nat, s.heap.size ≤ q → A q := fun q h => by rw [← hAe]; exact Or.inr h
  have hS : va_S A s.heap s.heap [] := va_S.rf
  have hl := lv_entry ([.ref h, .int what]) (n := 2) (Nat.le_of_ble_eq_true rfl)
  rw [lg_entry_eq]
  generalize (lg_sl ([.ref h, .int what]) ++ List.replicate (2 - (lg_sl ([.ref h, .int what])).length) Slot.unset).toArray = ls at hl ⊢
  have hl : lv_has ls 2 [(0, .ref h), (1, .int what)] := hl
  have hP : va_P D vwCl [oq6 h h_now h_trial h_images h_imageThere h_teller h_ranks h_court h_sheets h_lf h_lt, oqT h_now n_a n_N n_J, oqF0 k n_a n_F, oqF1 k n_a n_F, oqF2 k n_a n_F, oqF3 k n_a n_F, oqF4 k n_a n_F, oqF5 k n_a n_F, oqF6 k n_a n_F] s.heap := hP
  refine lv_iload_n hx hb dX7_rule_0 rfl (lv_at hl 1 rfl) ?_
  by_cases sw_1 : what = 0
  · subst sw_1
    refine lv_tableIn (off := 47) (tgt := 48) hx hb dX7_rule_1 (by decide) (by decide) (by rfl) (by decide) ?_
    refine lv_aload_n hx hb dX7_rule_48 rfl (lv_at hl 0 rfl) ?_
    refine va_get (D := D) (ci := 6) (v := .ref h_now) (C := RX7) (T := TX7) (N := 10) hx hb hts hiX7 hown hK hP 0 rfl rfl 0 (Nat.le_of_ble_eq_true rfl) fl10 (fun _ h9 => h9) rfl dX7_rule_49 ?_
    refine va_get (D := D) (ci := 5) (v := .int (nI (n_N 0))) (C := RX6) (T := TX6) (N := 15) hx hb hts hiX6 hown hK hP 1 rfl rfl 7 (Nat.le_of_ble_eq_true rfl) fl93 (fun _ h9 => h9) rfl dX7_rule_52 ?_
    exact hs_iret hx hb hr hlocks hK hP hD hS () [0, 1, 2, 3, 4, 5, 6, 7, 8] rfl (hs_upnd rfl) dX7_rule_55 (rfl)
  by_cases sw_2 : what = 1
  · subst sw_2
    refine lv_tableIn (off := 55) (tgt := 56) hx hb dX7_rule_1 (by decide) (by decide) (by rfl) (by decide) ?_
    refine lv_aload_n hx hb dX7_rule_56 rfl (lv_at hl 0 rfl) ?_
    refine va_get (D := D) (ci := 6) (v := .ref h_now) (C := RX7) (T := TX7) (N := 10) hx hb hts hiX7 hown hK hP 0 rfl rfl 0 (Nat.le_of_ble_eq_true rfl) fl10 (fun _ h9 => h9) rfl dX7_rule_57 ?_
    refine va_get (D := D) (ci := 5) (v := .int (nI (n_N 1))) (C := RX6) (T := TX6) (N := 15) hx hb hts hiX6 hown hK hP 1 rfl rfl 8 (Nat.le_of_ble_eq_true rfl) fl96 (fun _ h9 => h9) rfl dX7_rule_60 ?_
    exact hs_iret hx hb hr hlocks hK hP hD hS () [0, 1, 2, 3, 4, 5, 6, 7, 8] rfl (hs_upnd rfl) dX7_rule_63 (rfl)
  by_cases sw_3 : what = 2
  · subst sw_3
    refine lv_tableIn (off := 63) (tgt := 64) hx hb dX7_rule_1 (by decide) (by decide) (by rfl) (by decide) ?_
    refine lv_aload_n hx hb dX7_rule_64 rfl (lv_at hl 0 rfl) ?_
    refine va_get (D := D) (ci := 6) (v := .ref h_now) (C := RX7) (T := TX7) (N := 10) hx hb hts hiX7 hown hK hP 0 rfl rfl 0 (Nat.le_of_ble_eq_true rfl) fl10 (fun _ h9 => h9) rfl dX7_rule_65 ?_
    refine va_get (D := D) (ci := 5) (v := .int (n_J 0)) (C := RX6) (T := TX6) (N := 15) hx hb hts hiX6 hown hK hP 1 rfl rfl 9 (Nat.le_of_ble_eq_true rfl) fl99 (fun _ h9 => h9) rfl dX7_rule_68 ?_
    exact hs_iret hx hb hr hlocks hK hP hD hS () [0, 1, 2, 3, 4, 5, 6, 7, 8] rfl (hs_upnd rfl) dX7_rule_71 (rfl)
  by_cases sw_4 : what = 3
  · subst sw_4
    refine lv_tableIn (off := 71) (tgt := 72) hx hb dX7_rule_1 (by decide) (by decide) (by rfl) (by decide) ?_
    refine lv_aload_n hx hb dX7_rule_72 rfl (lv_at hl 0 rfl) ?_
    refine va_get (D := D) (ci := 6) (v := .ref h_now) (C := RX7) (T := TX7) (N := 10) hx hb hts hiX7 hown hK hP 0 rfl rfl 0 (Nat.le_of_ble_eq_true rfl) fl10 (fun _ h9 => h9) rfl dX7_rule_73 ?_
    refine va_get (D := D) (ci := 5) (v := .int (n_J 1)) (C := RX6) (T := TX6) (N := 15) hx hb hts hiX6 hown hK hP 1 rfl rfl 10 (Nat.le_of_ble_eq_true rfl) fl102 (fun _ h9 => h9) rfl dX7_rule_76 ?_
    exact hs_iret hx hb hr hlocks hK hP hD hS () [0, 1, 2, 3, 4, 5, 6, 7, 8] rfl (hs_upnd rfl) dX7_rule_79 (rfl)
  by_cases sw_5 : what = 4
  · subst sw_5
    refine lv_tableIn (off := 79) (tgt := 80) hx hb dX7_rule_1 (by decide) (by decide) (by rfl) (by decide) ?_
    refine lv_aload_n hx hb dX7_rule_80 rfl (lv_at hl 0 rfl) ?_
    refine va_get (D := D) (ci := 6) (v := .ref h_now) (C := RX7) (T := TX7) (N := 10) hx hb hts hiX7 hown hK hP 0 rfl rfl 0 (Nat.le_of_ble_eq_true rfl) fl10 (fun _ h9 => h9) rfl dX7_rule_81 ?_
    refine va_get (D := D) (ci := 5) (v := .int (n_J 2)) (C := RX6) (T := TX6) (N := 15) hx hb hts hiX6 hown hK hP 1 rfl rfl 11 (Nat.le_of_ble_eq_true rfl) fl105 (fun _ h9 => h9) rfl dX7_rule_84 ?_
    exact hs_iret hx hb hr hlocks hK hP hD hS () [0, 1, 2, 3, 4, 5, 6, 7, 8] rfl (hs_upnd rfl) dX7_rule_87 (rfl)
  by_cases sw_6 : what = 5
  · subst sw_6
    refine lv_tableIn (off := 87) (tgt := 88) hx hb dX7_rule_1 (by decide) (by decide) (by rfl) (by decide) ?_
    refine lv_aload_n hx hb dX7_rule_88 rfl (lv_at hl 0 rfl) ?_
    refine va_get (D := D) (ci := 6) (v := .ref h_now) (C := RX7) (T := TX7) (N := 10) hx hb hts hiX7 hown hK hP 0 rfl rfl 0 (Nat.le_of_ble_eq_true rfl) fl10 (fun _ h9 => h9) rfl dX7_rule_89 ?_
    refine va_get (D := D) (ci := 5) (v := .int (nI (n_N 2))) (C := RX6) (T := TX6) (N := 15) hx hb hts hiX6 hown hK hP 1 rfl rfl 12 (Nat.le_of_ble_eq_true rfl) fl108 (fun _ h9 => h9) rfl dX7_rule_92 ?_
    exact hs_iret hx hb hr hlocks hK hP hD hS () [0, 1, 2, 3, 4, 5, 6, 7, 8] rfl (hs_upnd rfl) dX7_rule_95 (rfl)
  by_cases sw_7 : what = 6
  · subst sw_7
    refine lv_tableIn (off := 95) (tgt := 96) hx hb dX7_rule_1 (by decide) (by decide) (by rfl) (by decide) ?_
    refine lv_aload_n hx hb dX7_rule_96 rfl (lv_at hl 0 rfl) ?_
    refine va_get (D := D) (ci := 6) (v := .ref h_now) (C := RX7) (T := TX7) (N := 10) hx hb hts hiX7 hown hK hP 0 rfl rfl 0 (Nat.le_of_ble_eq_true rfl) fl10 (fun _ h9 => h9) rfl dX7_rule_97 ?_
    refine va_get (D := D) (ci := 5) (v := .int (nI (n_N 3))) (C := RX6) (T := TX6) (N := 15) hx hb hts hiX6 hown hK hP 1 rfl rfl 13 (Nat.le_of_ble_eq_true rfl) fl111 (fun _ h9 => h9) rfl dX7_rule_100 ?_
    exact hs_iret hx hb hr hlocks hK hP hD hS () [0, 1, 2, 3, 4, 5, 6, 7, 8] rfl (hs_upnd rfl) dX7_rule_103 (rfl)
  by_cases sw_8 : what = 7
  · subst sw_8
    refine lv_tableIn (off := 103) (tgt := 104) hx hb dX7_rule_1 (by decide) (by decide) (by rfl) (by decide) ?_
    refine lv_aload_n hx hb dX7_rule_104 rfl (lv_at hl 0 rfl) ?_
    refine va_get (D := D) (ci := 6) (v := .ref h_now) (C := RX7) (T := TX7) (N := 10) hx hb hts hiX7 hown hK hP 0 rfl rfl 0 (Nat.le_of_ble_eq_true rfl) fl10 (fun _ h9 => h9) rfl dX7_rule_105 ?_
    refine hs_ciM (va_runV (As := []) (rest := []) ⟨hx, hb, hml, hown, hts⟩ (gf_allWeights l D k _ h_now n_a n_N n_J n_F (by first | assumption | exact ⟨by first | omega | (dsimp; omega), by first | omega | (dsimp; omega), ⟨by first | omega | (dsimp; omega), by first | omega | (dsimp; omega)⟩, by first | omega | (dsimp; omega), by first | omega | (dsimp; omega)⟩)) (cwV 0 hts gX7_rule_X6_allWeights rfl rfl rfl ⟨rfl, hq_X6_allWeights⟩ ⟨Nat.le_of_ble_eq_true rfl, Nat.le_of_ble_eq_true rfl⟩) (hs_preV hK hN (hs_subP (w := [_, _, _, _, _, _, _, _]) hP [1, 2, 3, 4, 5, 6, 7, 8] rfl) (hD.sub (ws' := [_, _, _, _, _, _, _, _]) [1, 2, 3, 4, 5, 6, 7, 8] (hs_upnd rfl) rfl) (ci := 5) (q0 := 0) rfl rfl) rfl rfl hl.1 rfl (lv_room (Nat.le_of_ble_eq_true rfl)) dX7_rule_108 ⟨Nat.le_of_ble_eq_true rfl, Nat.le_of_ble_eq_true rfl⟩) hP hD hS hA [true, false, false, false, false, false, false, false, false] [_] [_, _, _, _, _, _, _, _] rfl [0, 1, 2, 3, 4, 5, 6, 7] rfl [0, 1, 2, 3, 4, 5, 6, 7] (fun u_11 => [_, _, _, _, _, _, _, _]) (fun _ => rfl) (hs_upnd rfl) [true, false, false, false, false, false, false, false, false] (fun u_11 => [_, _, _, _, _, _, _, _, _]) (fun _ => rfl) (fun r_9 u_11 H locs hw_10 hP hD hS => ?_)
    refine hs_topi (smW (n_F 0) (n_N 0)) hw_10 ?_
    exact hs_iret hx hb hr hlocks hK hP hD hS () [0, 1, 2, 3, 4, 5, 6, 7, 8] rfl (hs_upnd rfl) dX7_rule_111 (rfl)
  refine lv_tableOut (tgt := 112) hx hb dX7_rule_1 (by have z0 := lv_neT sw_1 (a := 0) rfl; have z1 := lv_neT sw_2 (a := 1) rfl; have z2 := lv_neT sw_3 (a := 2) rfl; have z3 := lv_neT sw_4 (a := 3) rfl; have z4 := lv_neT sw_5 (a := 4) rfl; have z5 := lv_neT sw_6 (a := 5) rfl; have z6 := lv_neT sw_7 (a := 6) rfl; have z7 := lv_neT sw_8 (a := 7) rfl; omega) (by decide) ?_
  refine lv_iconst (v := (-1)) hx hb dX7_rule_112 hki_m1 ?_
  exact hs_iret hx hb hr hlocks hK hP hD hS () [0, 1, 2, 3, 4, 5, 6, 7, 8] rfl (hs_upnd rfl) dX7_rule_113 ((A_rl_bad sw_1 sw_2 sw_3 sw_4 sw_5 sw_6 sw_7 sw_8).symm)

set_option maxHeartbeats 4000000 in
set_option maxRecDepth 100000 in
theorem gqf_rule (l : Launch) (D : va_G) (k : Nat → ClassId) (sz : Nat) (mo : Nat) (mo_st : Nat) (mo_at : Nat) (mo_isKept : Nat) (mo_pe : Nat) (mo_hm : Nat) (mo_draft : Nat) (mo_dp : Nat) (mo_dh : Nat) (mo_toldLines : Int32) (mo_highest : Int32) (mo_tape : Nat) (mo_tl : Nat) (mo_ps : Nat) (mo_fr : Nat) (mo_sort : Int32) (mo_value : Int32) (mo_ft : Nat) (mo_wrongAt : Int32) (mo_row : Nat) (mo_orderMany : Int32) (mo_fo : Nat) (mo_lightest : Int32) (mo_heaviest : Int32) (mo_before : Nat) (mo_justSum : Int64) (mo_toldSum : Int64) (mo_allWays : Int64) (mo_lanes : Nat) (mo_sizes : Nat) (mo_cells : Nat) (mo_torn : Int32) (mo_had : Nat) (sf : Nat → Int32) (c0 : Nat) (c3 : Nat) (c4 : Nat) (fi : Nat) (af : Nat → Int32) (what : Int32) (e0 : sf 0 = nI c0) (h0 : c0 ≤ 8) (h02 : 2 ≤ c0) (e3 : sf 16 = nI c3) (h3 : c3 ≤ 8) (e4 : sf 25 = nI c4) (h4 : c4 ≤ 6) (hpe : mo_pe ≤ 4) (hm2 : 2 ≤ mo_hm) (hm5 : mo_hm ≤ 5) (ef : sf 14 = nI fi) (hfi : fi ≤ 99) (hsaw : ∀ i, i < c4 → vp_in (sf (26 + 3 * i)) 4) : MI l yX8_rule wsX8_rule ({ frames := 1, cells := 0, slots := 0, locals := 22 }) D k [.ref mo, .int what] [oq7 mo mo_st mo_at mo_isKept (nI mo_pe) (nI mo_hm) mo_draft (nI mo_dp) (nI mo_dh) mo_toldLines mo_highest mo_tape (nI mo_tl) (nI mo_ps) (nI mo_fr) mo_sort mo_value (nI mo_ft) mo_wrongAt mo_row mo_orderMany (nI mo_fo) mo_lightest mo_heaviest mo_before mo_justSum mo_toldSum mo_allWays mo_lanes mo_sizes mo_cells mo_torn mo_had, oqI k mo_st 132 (sf), oqI k mo_at 44 (af)] sz (fun (r : Int32) (u : Nat → Int32) => r = A_rl (sf 0) (nI mo_pe) (sf 13) (sf 14) (sf 15) (nI mo_hm) (sf 16) (smW (fun j => sf (1 + j)) c0) what) (fun (u : Nat → Int32) => [oq7 mo mo_st mo_at mo_isKept (nI mo_pe) (nI mo_hm) mo_draft (nI mo_dp) (nI mo_dh) mo_toldLines mo_highest mo_tape (nI mo_tl) (nI mo_ps) (nI mo_fr) mo_sort mo_value (nI mo_ft) mo_wrongAt mo_row mo_orderMany (nI mo_fo) mo_lightest mo_heaviest mo_before mo_justSum mo_toldSum mo_allWays mo_lanes mo_sizes mo_cells mo_torn mo_had, oqI k mo_st 132 (sf), oqI k mo_at 44 (u)]) := by
  refine Met.ofW (cc := cX8_rule) (maxL := 2) (ret := (some .int)) hpn_X8 rfl ?_
  intro p e s m args below meth c s₁ B hml hv
  obtain ⟨rfl, hsz, hP, hK, hD0, hN⟩ := hv
  have hx := B.exec
  have hb := B.bytes
  have hr := B.returns
  have hlocks := B.notSynchronized
  have hts := atoms_spec (ws := wsX8_rule) B.pre
  have hown := findClass_of_methodNamed B.named
  have hown : s.vm.findClass RX8 = some m.cls := hown
  have hiX8 : ∀ w ∈ u_ws RX8 TX8 32, w ∈ wsX8_rule := fun w9 hw9 => List.mem_cons_of_mem _ (igX8 w9 hw9)
  have fl7 := hts (.fieldLink RX8 7 "HalfScalesModel" "st" "[I") (List.mem_cons_of_mem _ (hs_inG 4 80 rfl rfl))
  have fl63 := hts (.fieldLink RX8 63 "HalfScalesModel" "people" "I") (List.mem_cons_of_mem _ (hs_inG 4 83 rfl rfl))
  have fl66 := hts (.fieldLink RX8 66 "HalfScalesModel" "halfMany" "I") (List.mem_cons_of_mem _ (hs_inG 4 84 rfl rfl))
  subst hsz
  have hD := hD0.self (sz := s.heap.size)
  generalize hAe : va_A [oq7 mo mo_st mo_at mo_isKept (nI mo_pe) (nI mo_hm) mo_draft (nI mo_dp) (nI mo_dh) mo_toldLines mo_highest mo_tape (nI mo_tl) (nI mo_ps) (nI mo_fr) mo_sort mo_value (nI mo_ft) mo_wrongAt mo_row mo_orderMany (nI mo_fo) mo_lightest mo_heaviest mo_before mo_justSum mo_toldSum mo_allWays mo_lanes mo_sizes mo_cells mo_torn mo_had, oqI k mo_st 132 (sf), oqI k mo_at 44 (af)] s.heap.size = A at hD ⊢
  have hA : ∀ q : Nat, s.heap.size ≤ q → A q := fun q h => by rw [← hAe]; exact Or.inr h
  have hS : va_S A s.heap s.heap [] := va_S.rf
  have hl := lv_entry ([.ref mo, .int what]) (n := 2) (Nat.le_of_ble_eq_true rfl)
  rw [lg_entry_eq]
  generalize (lg_sl ([.ref mo, .int what]) ++ List.replicate (2 - (lg_sl ([.ref mo, .int what])).length) Slot.unset).toArray = ls at hl ⊢
  have hl : lv_has ls 2 [(0, .ref mo), (1, .int what)] := hl
  have hP : va_P D vwCl [oq7 mo mo_st mo_at mo_isKept (nI mo_pe) (nI mo_hm) mo_draft (nI mo_dp) (nI mo_dh) mo_toldLines mo_highest mo_tape (nI mo_tl) (nI mo_ps) (nI mo_fr) mo_sort mo_value (nI mo_ft) mo_wrongAt mo_row mo_orderMany (nI mo_fo) mo_lightest mo_heaviest mo_before mo_justSum mo_toldSum mo_allWays mo_lanes mo_sizes mo_cells mo_torn mo_had, oqI k mo_st 132 (sf), oqI k mo_at 44 (af)] s.heap := hP
  refine lv_aload_n hx hb dX8_rule_0 rfl (lv_at hl 0 rfl) ?_
  refine hs_cvM (va_runV (As := []) (rest := []) ⟨hx, hb, hml, hown, hts⟩ (gm_starts l D k _ mo mo_st mo_at mo_isKept mo_pe mo_hm mo_draft mo_dp mo_dh mo_toldLines mo_highest mo_tape mo_tl mo_ps mo_fr mo_sort mo_value mo_ft mo_wrongAt mo_row mo_orderMany mo_fo mo_lightest mo_heaviest mo_before mo_justSum mo_toldSum mo_allWays mo_lanes mo_sizes mo_cells mo_torn mo_had sf af) (cwV 0 hts gX8_rule_X8_starts rfl rfl rfl ⟨rfl, hq_X8_starts⟩ ⟨Nat.le_of_ble_eq_true rfl, Nat.le_of_ble_eq_true rfl⟩) (hs_preV hK hN (hs_subP (w := [_, _, _]) hP [0, 1, 2] rfl) (hD.sub (ws' := [_, _, _]) [0, 1, 2] (hs_upnd rfl) rfl) (ci := 7) (q0 := 0) rfl rfl) rfl rfl hl.1 rfl (lv_room (Nat.le_of_ble_eq_true rfl)) dX8_rule_1 ⟨Nat.le_of_ble_eq_true rfl, Nat.le_of_ble_eq_true rfl⟩) hP hD hS hA [false, false, false] [] [_, _, _] rfl [0, 1, 2] rfl [0, 1, 2] (fun u_3 => [_, _, _]) (fun _ => rfl) (hs_upnd rfl) [false, false, false] (fun u_3 => [_, _, _]) (fun _ => rfl) (fun u_3 H locs hw_2 hP hD hS => ?_)
  have hw_2 : ∀ j, j < 44 → u_3 j = sf j := hw_2
  have e0a : u_3 0 = nI c0 := (hw_2 0 (by decide)).trans e0
  have e3a : u_3 16 = nI c3 := (hw_2 16 (by decide)).trans e3
  have e4a : u_3 25 = nI c4 := (hw_2 25 (by decide)).trans e4
  have hw_2 : ∀ j, j < 44 → u_3 j = sf j := hw_2
  refine lv_iload_n hx hb dX8_rule_4 rfl (lv_at hl 1 rfl) ?_
  by_cases sw_4 : what = 0
  · subst sw_4
    refine lv_tableIn (off := 47) (tgt := 52) hx hb dX8_rule_5 (by decide) (by decide) (by rfl) (by decide) ?_
    refine lv_aload_n hx hb dX8_rule_52 rfl (lv_at hl 0 rfl) ?_
    refine va_get (D := D) (ci := 7) (v := .ref mo_st) (C := RX8) (T := TX8) (N := 32) hx hb hts hiX8 hown hK hP 0 rfl rfl 0 (Nat.le_of_ble_eq_true rfl) fl7 (fun _ h9 => h9) rfl dX8_rule_53 ?_
    refine lv_iconst (v := 0) hx hb dX8_rule_56 hki_0 ?_
    refine va_iald hx hb hK hP 1 0 rfl rfl (hs_in (by decide)) dX8_rule_57 ?_
    refine hs_topi (nI c0) e0 ?_
    exact hs_iret hx hb hr hlocks hK hP hD hS u_3 [0, 1, 2] rfl (hs_upnd rfl) dX8_rule_58 ((show nI c0 = sf 0 from e0.symm))
  by_cases sw_5 : what = 1
  · subst sw_5
    refine lv_tableIn (off := 54) (tgt := 59) hx hb dX8_rule_5 (by decide) (by decide) (by rfl) (by decide) ?_
    refine lv_aload_n hx hb dX8_rule_59 rfl (lv_at hl 0 rfl) ?_
    refine va_get (D := D) (ci := 7) (v := .int (nI mo_pe)) (C := RX8) (T := TX8) (N := 32) hx hb hts hiX8 hown hK hP 0 rfl rfl 3 (Nat.le_of_ble_eq_true rfl) fl63 (fun _ h9 => h9) rfl dX8_rule_60 ?_
    exact hs_iret hx hb hr hlocks hK hP hD hS u_3 [0, 1, 2] rfl (hs_upnd rfl) dX8_rule_63 (rfl)
  by_cases sw_6 : what = 2
  · subst sw_6
    refine lv_tableIn (off := 59) (tgt := 64) hx hb dX8_rule_5 (by decide) (by decide) (by rfl) (by decide) ?_
    refine lv_aload_n hx hb dX8_rule_64 rfl (lv_at hl 0 rfl) ?_
    refine va_get (D := D) (ci := 7) (v := .ref mo_st) (C := RX8) (T := TX8) (N := 32) hx hb hts hiX8 hown hK hP 0 rfl rfl 0 (Nat.le_of_ble_eq_true rfl) fl7 (fun _ h9 => h9) rfl dX8_rule_65 ?_
    refine lv_bipush (v := 13) hx hb dX8_rule_68 hkb_13 ?_
    refine lv_iload_n hx hb dX8_rule_70 rfl (lv_at hl 1 rfl) ?_
    refine lv_iadd hx hb dX8_rule_71 ?_
    refine hs_topi 15 (by first | rfl | decide +kernel) ?_
    refine lv_iconst (v := 2) hx hb dX8_rule_72 hki_2 ?_
    refine lv_isub hx hb dX8_rule_73 ?_
    refine hs_topi 13 (by first | rfl | decide +kernel) ?_
    refine va_iald hx hb hK hP 1 0 rfl rfl (hs_in (by decide)) dX8_rule_74 ?_
    refine hs_topi (sf 13) (by rfl) ?_
    exact hs_iret hx hb hr hlocks hK hP hD hS u_3 [0, 1, 2] rfl (hs_upnd rfl) dX8_rule_75 (rfl)
  by_cases sw_7 : what = 3
  · subst sw_7
    refine lv_tableIn (off := 59) (tgt := 64) hx hb dX8_rule_5 (by decide) (by decide) (by rfl) (by decide) ?_
    refine lv_aload_n hx hb dX8_rule_64 rfl (lv_at hl 0 rfl) ?_
    refine va_get (D := D) (ci := 7) (v := .ref mo_st) (C := RX8) (T := TX8) (N := 32) hx hb hts hiX8 hown hK hP 0 rfl rfl 0 (Nat.le_of_ble_eq_true rfl) fl7 (fun _ h9 => h9) rfl dX8_rule_65 ?_
    refine lv_bipush (v := 13) hx hb dX8_rule_68 hkb_13 ?_
    refine lv_iload_n hx hb dX8_rule_70 rfl (lv_at hl 1 rfl) ?_
    refine lv_iadd hx hb dX8_rule_71 ?_
    refine hs_topi 16 (by first | rfl | decide +kernel) ?_
    refine lv_iconst (v := 2) hx hb dX8_rule_72 hki_2 ?_
    refine lv_isub hx hb dX8_rule_73 ?_
    refine hs_topi 14 (by first | rfl | decide +kernel) ?_
    refine va_iald hx hb hK hP 1 0 rfl rfl (hs_in (by decide)) dX8_rule_74 ?_
    refine hs_topi (nI fi) ef ?_
    exact hs_iret hx hb hr hlocks hK hP hD hS u_3 [0, 1, 2] rfl (hs_upnd rfl) dX8_rule_75 ((show nI fi = sf 14 from ef.symm))
  by_cases sw_8 : what = 4
  · subst sw_8
    refine lv_tableIn (off := 59) (tgt := 64) hx hb dX8_rule_5 (by decide) (by decide) (by rfl) (by decide) ?_
    refine lv_aload_n hx hb dX8_rule_64 rfl (lv_at hl 0 rfl) ?_
    refine va_get (D := D) (ci := 7) (v := .ref mo_st) (C := RX8) (T := TX8) (N := 32) hx hb hts hiX8 hown hK hP 0 rfl rfl 0 (Nat.le_of_ble_eq_true rfl) fl7 (fun _ h9 => h9) rfl dX8_rule_65 ?_
    refine lv_bipush (v := 13) hx hb dX8_rule_68 hkb_13 ?_
    refine lv_iload_n hx hb dX8_rule_70 rfl (lv_at hl 1 rfl) ?_
    refine lv_iadd hx hb dX8_rule_71 ?_
    refine hs_topi 17 (by first | rfl | decide +kernel) ?_
    refine lv_iconst (v := 2) hx hb dX8_rule_72 hki_2 ?_
    refine lv_isub hx hb dX8_rule_73 ?_
    refine hs_topi 15 (by first | rfl | decide +kernel) ?_
    refine va_iald hx hb hK hP 1 0 rfl rfl (hs_in (by decide)) dX8_rule_74 ?_
    refine hs_topi (sf 15) (by rfl) ?_
    exact hs_iret hx hb hr hlocks hK hP hD hS u_3 [0, 1, 2] rfl (hs_upnd rfl) dX8_rule_75 (rfl)
  by_cases sw_9 : what = 5
  · subst sw_9
    refine lv_tableIn (off := 71) (tgt := 76) hx hb dX8_rule_5 (by decide) (by decide) (by rfl) (by decide) ?_
    refine lv_aload_n hx hb dX8_rule_76 rfl (lv_at hl 0 rfl) ?_
    refine va_get (D := D) (ci := 7) (v := .int (nI mo_hm)) (C := RX8) (T := TX8) (N := 32) hx hb hts hiX8 hown hK hP 0 rfl rfl 4 (Nat.le_of_ble_eq_true rfl) fl66 (fun _ h9 => h9) rfl dX8_rule_77 ?_
    exact hs_iret hx hb hr hlocks hK hP hD hS u_3 [0, 1, 2] rfl (hs_upnd rfl) dX8_rule_80 (rfl)
  by_cases sw_10 : what = 6
  · subst sw_10
    refine lv_tableIn (off := 76) (tgt := 81) hx hb dX8_rule_5 (by decide) (by decide) (by rfl) (by decide) ?_
    refine lv_aload_n hx hb dX8_rule_81 rfl (lv_at hl 0 rfl) ?_
    refine va_get (D := D) (ci := 7) (v := .ref mo_st) (C := RX8) (T := TX8) (N := 32) hx hb hts hiX8 hown hK hP 0 rfl rfl 0 (Nat.le_of_ble_eq_true rfl) fl7 (fun _ h9 => h9) rfl dX8_rule_82 ?_
    refine lv_bipush (v := 16) hx hb dX8_rule_85 hkb_16 ?_
    refine va_iald hx hb hK hP 1 0 rfl rfl (hs_in (by decide)) dX8_rule_87 ?_
    refine hs_topi (nI c3) e3 ?_
    exact hs_iret hx hb hr hlocks hK hP hD hS u_3 [0, 1, 2] rfl (hs_upnd rfl) dX8_rule_88 ((show nI c3 = sf 16 from e3.symm))
  by_cases sw_11 : what = 7
  · subst sw_11
    refine lv_tableIn (off := 84) (tgt := 89) hx hb dX8_rule_5 (by decide) (by decide) (by rfl) (by decide) ?_
    refine lv_aload_n hx hb dX8_rule_89 rfl (lv_at hl 0 rfl) ?_
    refine hs_ciM (va_runV (As := []) (rest := []) ⟨hx, hb, hml, hown, hts⟩ (gr_allWeights l D k _ mo mo_st mo_at mo_isKept mo_pe mo_hm mo_draft mo_dp mo_dh mo_toldLines mo_highest mo_tape mo_tl mo_ps mo_fr mo_sort mo_value mo_ft mo_wrongAt mo_row mo_orderMany mo_fo mo_lightest mo_heaviest mo_before mo_justSum mo_toldSum mo_allWays mo_lanes mo_sizes mo_cells mo_torn mo_had u_3 c0 (by first | exact e0a | exact e0) (by omega)) (cwV 0 hts gX8_rule_X8_allWeights rfl rfl rfl ⟨rfl, hq_X8_allWeights⟩ ⟨Nat.le_of_ble_eq_true rfl, Nat.le_of_ble_eq_true rfl⟩) (hs_preV hK hN (hs_subP (w := [_, _]) hP [0, 2] rfl) (hD.sub (ws' := [_, _]) [0, 2] (hs_upnd rfl) rfl) (ci := 7) (q0 := 0) rfl rfl) rfl rfl hl.1 rfl (lv_room (Nat.le_of_ble_eq_true rfl)) dX8_rule_90 ⟨Nat.le_of_ble_eq_true rfl, Nat.le_of_ble_eq_true rfl⟩) hP hD hS hA [false, true, false] [_] [_, _] rfl [0, 1] rfl [0, 1] (fun u_14 => [_, _]) (fun _ => rfl) (hs_upnd rfl) [false, true, false] (fun u_14 => [_, _, _]) (fun _ => rfl) (fun r_12 u_14 H locs hw_13 hP hD hS => ?_)
    refine hs_topi (smW (fun j => u_3 (1 + j)) c0) hw_13 ?_
    exact hs_iret hx hb hr hlocks hK hP hD hS u_3 [0, 1, 2] rfl (hs_upnd rfl) dX8_rule_93 ((smW_congr c0 (fun j hj => hw_2 (1 + j) (by omega))))
  refine lv_tableOut (tgt := 94) hx hb dX8_rule_5 (by have z0 := lv_neT sw_4 (a := 0) rfl; have z1 := lv_neT sw_5 (a := 1) rfl; have z2 := lv_neT sw_6 (a := 2) rfl; have z3 := lv_neT sw_7 (a := 3) rfl; have z4 := lv_neT sw_8 (a := 4) rfl; have z5 := lv_neT sw_9 (a := 5) rfl; have z6 := lv_neT sw_10 (a := 6) rfl; have z7 := lv_neT sw_11 (a := 7) rfl; omega) (by decide) ?_
  refine lv_iconst (v := (-1)) hx hb dX8_rule_94 hki_m1 ?_
  exact hs_iret hx hb hr hlocks hK hP hD hS u_3 [0, 1, 2] rfl (hs_upnd rfl) dX8_rule_95 ((A_rl_bad sw_4 sw_5 sw_6 sw_7 sw_8 sw_9 sw_10 sw_11).symm)
