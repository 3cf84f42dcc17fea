set_option maxHeartbeats 4000000 in
set_option maxRecDepth 100000 in
theorem gf_howManyWith (l : Launch) (D : va_G) (k : Nat → ClassId) (sz : Nat) (q : Nat) (q_ahead : Nat) (q_ways : Nat) (q_z : Nat) (a : Nat) (b : Nat) (af : Nat → Int32) (wf : Nat → Int32) (ah : Nat → Nat) (hz : q_z ≤ 5) (ha5 : a < 5) (hb5 : b < 5) (hah : ∀ h, h < 5 → (af h = nI (ah h) ∧ ah h < 32)) : MI l yX2_howManyWith wsX2_howManyWith ({ frames := 2, cells := 0, slots := 0, locals := 47 }) D k [.ref q, .int (nI a), .int (nI b)] [oq1 q q_ahead q_ways (nI q_z), oqI k q_ahead 5 (af), oqI k q_ways 32 (wf)] sz (fun (r : Int32) (u : (Nat → Int32) × (Nat → Int32)) => r = nI (Wm q_z (ahx ah a b) q_z (2 ^ q_z - 1)) ∧ ∀ h, h < 5 → (u.1 h = nI (ah h) ∧ ah h < 32)) (fun (u : (Nat → Int32) × (Nat → Int32)) => [oq1 q q_ahead q_ways (nI q_z), oqI k q_ahead 5 (u.1), oqI k q_ways 32 (u.2)]) := by
  refine Met.ofW (cc := cX2_howManyWith) (maxL := 5) (ret := (some .int)) hpn_X2 rfl ?_
  intro p e s m args below meth c s₁ B hml hv
  obtain ⟨rfl, hsz, hP, hK, hD0, hN⟩ := hv
  have hx := B.exec
  have hb := B.bytes
  have hr := B.returns
  have hlocks := B.notSynchronized
  have hts := atoms_spec (ws := wsX2_howManyWith) B.pre
  have hown := findClass_of_methodNamed B.named
  have hown : s.vm.findClass RX2 = some m.cls := hown
  have hiX2 : ∀ w ∈ u_ws RX2 TX2 3, w ∈ wsX2_howManyWith := fun w9 hw9 => List.mem_cons_of_mem _ (igX2 w9 hw9)
  have fl9 := hts (.fieldLink RX2 9 "HalfScales$Ranks" "ahead" "[I") (List.mem_cons_of_mem _ (hs_inG 1 176 rfl rfl))
  subst hsz
  have hD := hD0.self (sz := s.heap.size)
  generalize hAe : va_A [oq1 q q_ahead q_ways (nI q_z), oqI k q_ahead 5 (af), oqI k q_ways 32 (wf)] s.heap.size = A at hD ⊢
  have hA : ∀ q : Nat, s.heap.size ≤ q → A q := fun q h => by rw [← hAe]; exact Or.inr h
  have hS : va_S A s.heap s.heap [] := va_S.rf
  have hl := lv_entry ([.ref q, .int (nI a), .int (nI b)]) (n := 5) (Nat.le_of_ble_eq_true rfl)
  rw [lg_entry_eq]
  generalize (lg_sl ([.ref q, .int (nI a), .int (nI b)]) ++ List.replicate (5 - (lg_sl ([.ref q, .int (nI a), .int (nI b)])).length) Slot.unset).toArray = ls at hl ⊢
  have hl : lv_has ls 5 [(0, .ref q), (1, .int (nI a)), (2, .int (nI b))] := hl
  have hP : va_P D vwCl [oq1 q q_ahead q_ways (nI q_z), oqI k q_ahead 5 (af), oqI k q_ways 32 (wf)] s.heap := hP
  refine lv_aload_n hx hb dX2_howManyWith_0 rfl (lv_at hl 0 rfl) ?_
  refine va_get (D := D) (ci := 1) (v := .ref q_ahead) (C := RX2) (T := TX2) (N := 3) hx hb hts hiX2 hown hK hP 0 rfl rfl 0 (Nat.le_of_ble_eq_true rfl) fl9 (fun _ h9 => h9) rfl dX2_howManyWith_1 ?_
  refine lv_iload_n hx hb dX2_howManyWith_4 rfl (lv_at hl 2 rfl) ?_
  refine va_iald hx hb hK hP 1 0 rfl rfl (vp_in_nI (show b < 5 by omega) (by decide)) dX2_howManyWith_5 ?_
  refine hs_topi (nI (ah b)) (by rw [nI_clamp (by omega)]; exact (hah b hb5).1) ?_
  refine lv_istore_n (lv' := [(3, .int (nI (ah b))), (0, .ref q), (1, .int (nI a)), (2, .int (nI b))]) hx hb dX2_howManyWith_6 rfl hl (Nat.le_of_ble_eq_true rfl) rfl (fun ls hl => ?_)
  refine lv_aload_n hx hb dX2_howManyWith_7 rfl (lv_at hl 1 rfl) ?_
  refine va_get (D := D) (ci := 1) (v := .ref q_ahead) (C := RX2) (T := TX2) (N := 3) hx hb hts hiX2 hown hK hP 0 rfl rfl 0 (Nat.le_of_ble_eq_true rfl) fl9 (fun _ h9 => h9) rfl dX2_howManyWith_8 ?_
  refine lv_iload_n hx hb dX2_howManyWith_11 rfl (lv_at hl 3 rfl) ?_
  refine lv_iload_n hx hb dX2_howManyWith_12 rfl (lv_at hl 0 rfl) ?_
  refine lv_iconst (v := 1) hx hb dX2_howManyWith_13 hki_1 ?_
  refine lv_iload_n hx hb dX2_howManyWith_14 rfl (lv_at hl 2 rfl) ?_
  refine lv_ishl hx hb dX2_howManyWith_15 ?_
  refine lv_ior hx hb dX2_howManyWith_16 ?_
  refine hs_topi (nI (ah b ||| 2 ^ a)) (hs_or5 (ah b) (hah b hb5).2 a ha5) ?_
  refine va_iast hx hb hK hP hD hS 1 0 rfl rfl (vp_in_nI (show b < 5 by omega) (by decide)) dX2_howManyWith_17 (fun H locs hP hD hS => ?_)
  have hP : va_P D vwCl [oq1 q q_ahead q_ways (nI q_z), oqI k q_ahead 5 (upd af ((nI b).toNatClampNeg) (nI (ah b ||| 2 ^ a))), oqI k q_ways 32 (wf)] H := hP
  have hD : va_D A [oq1 q q_ahead q_ways (nI q_z), oqI k q_ahead 5 (upd af ((nI b).toNatClampNeg) (nI (ah b ||| 2 ^ a))), oqI k q_ways 32 (wf)] := hD
  refine lv_aload_n hx hb dX2_howManyWith_18 rfl (lv_at hl 1 rfl) ?_
  refine hs_ciM (va_runV (As := []) (rest := []) ⟨hx, hb, hml, hown, hts⟩ (gf_howMany l D k _ q q_ahead q_ways q_z (upd af ((nI b).toNatClampNeg) (nI (ah b ||| 2 ^ a))) wf (ahx ah a b) (by omega) (hahx hah ha5 hb5)) (cwV 0 hts gX2_howManyWith_X2_howMany rfl rfl rfl ⟨rfl, hq_X2_howMany⟩ ⟨Nat.le_of_ble_eq_true rfl, Nat.le_of_ble_eq_true rfl⟩) (hs_preV hK hN (hs_subP (w := [_, _, _]) hP [0, 1, 2] rfl) (hD.sub (ws' := [_, _, _]) [0, 1, 2] (hs_upnd rfl) rfl) (ci := 1) (q0 := 0) rfl rfl) rfl rfl hl.1 rfl (lv_room (Nat.le_of_ble_eq_true rfl)) dX2_howManyWith_19 ⟨Nat.le_of_ble_eq_true rfl, Nat.le_of_ble_eq_true rfl⟩) hP hD hS hA [false, false, false] [] [_, _, _] rfl [0, 1, 2] rfl [0, 1, 2] (fun u_3 => [_, _, _]) (fun _ => rfl) (hs_upnd rfl) [false, false, false] (fun u_3 => [_, _, _]) (fun _ => rfl) (fun r_1 u_3 H locs hw_2 hP hD hS => ?_)
  refine hs_topi (nI (Wm q_z (ahx ah a b) q_z (2 ^ q_z - 1))) hw_2 ?_
  refine lv_istore (lv' := [(4, .int (nI (Wm q_z (ahx ah a b) q_z (2 ^ q_z - 1)))), (3, .int (nI (ah b))), (0, .ref q), (1, .int (nI a)), (2, .int (nI b))]) hx hb dX2_howManyWith_22 hl (Nat.le_of_ble_eq_true rfl) rfl (fun ls hl => ?_)
  refine lv_aload_n hx hb dX2_howManyWith_24 rfl (lv_at hl 2 rfl) ?_
  refine va_get (D := D) (ci := 1) (v := .ref q_ahead) (C := RX2) (T := TX2) (N := 3) hx hb hts hiX2 hown hK hP 0 rfl rfl 0 (Nat.le_of_ble_eq_true rfl) fl9 (fun _ h9 => h9) rfl dX2_howManyWith_25 ?_
  refine lv_iload_n hx hb dX2_howManyWith_28 rfl (lv_at hl 4 rfl) ?_
  refine lv_iload_n hx hb dX2_howManyWith_29 rfl (lv_at hl 1 rfl) ?_
  refine va_iast hx hb hK hP hD hS 1 0 rfl rfl (vp_in_nI (show b < 5 by omega) (by decide)) dX2_howManyWith_30 (fun H locs hP hD hS => ?_)
  have hP : va_P D vwCl [_, oqI k q_ahead 5 (upd (upd af ((nI b).toNatClampNeg) (nI (ah b ||| 2 ^ a))) ((nI b).toNatClampNeg) (nI (ah b))), _] H := hP
  have hD : va_D A [_, oqI k q_ahead 5 (upd (upd af ((nI b).toNatClampNeg) (nI (ah b ||| 2 ^ a))) ((nI b).toNatClampNeg) (nI (ah b))), _] := hD
  refine lv_iload hx hb dX2_howManyWith_31 (lv_at hl 0 rfl) ?_
  exact hs_iret hx hb hr hlocks hK hP hD hS (upd (upd af ((nI b).toNatClampNeg) (nI (ah b ||| 2 ^ a))) ((nI b).toNatClampNeg) (nI (ah b)), u_3) [0, 1, 2] rfl (hs_upnd rfl) dX2_howManyWith_33 (⟨rfl, hah_back hah hb5⟩)

set_option maxHeartbeats 4000000 in
set_option maxRecDepth 100000 in
theorem gr_placeOf (l : Launch) (D : va_G) (k : Nat → ClassId) (sz : Nat) (mo : Nat) (mo_st : Nat) (mo_at : Nat) (mo_isKept : Nat) (mo_pe : Nat) (mo_hm : Nat) (mo_draft : Nat) (mo_dp : Nat) (mo_dh : Nat) (mo_toldLines : Int32) (mo_highest : Int32) (mo_tape : Nat) (mo_tl : Nat) (mo_ps : Nat) (mo_fr : Nat) (mo_sort : Int32) (mo_value : Int32) (mo_ft : Nat) (mo_wrongAt : Int32) (mo_row : Nat) (mo_orderMany : Int32) (mo_fo : Nat) (mo_lightest : Int32) (mo_heaviest : Int32) (mo_before : Nat) (mo_justSum : Int64) (mo_toldSum : Int64) (mo_allWays : Int64) (mo_lanes : Nat) (mo_sizes : Nat) (mo_cells : Nat) (mo_torn : Int32) (mo_had : Nat) (rf : Nat → Int32) (v : Nat) (n : Nat) (rv : Nat → Nat) (hn : n ≤ 5) (hv5 : v < 2 ^ 30) (hrv : ∀ j, j < n → (rf j = nI (rv j) ∧ rv j < 5)) : MI l yX8_placeOf wsX8_placeOf ({ frames := 0, cells := 0, slots := 0, locals := 0 }) D k [.ref mo, .int (nI v), .int (nI n)] [oq7 mo mo_st mo_at mo_isKept (nI mo_pe) (nI mo_hm) mo_draft (nI mo_dp) (nI mo_dh) mo_toldLines mo_highest mo_tape (nI mo_tl) (nI mo_ps) (nI mo_fr) mo_sort mo_value (nI mo_ft) mo_wrongAt mo_row mo_orderMany (nI mo_fo) mo_lightest mo_heaviest mo_before mo_justSum mo_toldSum mo_allWays mo_lanes mo_sizes mo_cells mo_torn mo_had, oqI k mo_row 5 (rf)] sz (fun (r : Int32) (u : Unit) => r = nI (plcU rv v n)) (fun (u : Unit) => [oq7 mo mo_st mo_at mo_isKept (nI mo_pe) (nI mo_hm) mo_draft (nI mo_dp) (nI mo_dh) mo_toldLines mo_highest mo_tape (nI mo_tl) (nI mo_ps) (nI mo_fr) mo_sort mo_value (nI mo_ft) mo_wrongAt mo_row mo_orderMany (nI mo_fo) mo_lightest mo_heaviest mo_before mo_justSum mo_toldSum mo_allWays mo_lanes mo_sizes mo_cells mo_torn mo_had, oqI k mo_row 5 (rf)]) := by
  refine Met.ofW (cc := cX8_placeOf) (maxL := 5) (ret := (some .int)) hpn_X8 rfl ?_
  intro p e s m args below meth c s₁ B hml hv
  obtain ⟨rfl, hsz, hP, hK, hD0, hN⟩ := hv
  have hx := B.exec
  have hb := B.bytes
  have hr := B.returns
  have hlocks := B.notSynchronized
  have hts := atoms_spec (ws := wsX8_placeOf) B.pre
  have hown := findClass_of_methodNamed B.named
  have hown : s.vm.findClass RX8 = some m.cls := hown
  have hiX8 : ∀ w ∈ u_ws RX8 TX8 32, w ∈ wsX8_placeOf := fun w9 hw9 => List.mem_cons_of_mem _ (igX8 w9 hw9)
  have fl26 := hts (.fieldLink RX8 26 "HalfScalesModel" "row" "[I") (List.mem_cons_of_mem _ (hs_inG 4 98 rfl rfl))
  subst hsz
  have hD := hD0.self (sz := s.heap.size)
  generalize hAe : va_A [oq7 mo mo_st mo_at mo_isKept (nI mo_pe) (nI mo_hm) mo_draft (nI mo_dp) (nI mo_dh) mo_toldLines mo_highest mo_tape (nI mo_tl) (nI mo_ps) (nI mo_fr) mo_sort mo_value (nI mo_ft) mo_wrongAt mo_row mo_orderMany (nI mo_fo) mo_lightest mo_heaviest mo_before mo_justSum mo_toldSum mo_allWays mo_lanes mo_sizes mo_cells mo_torn mo_had, oqI k mo_row 5 (rf)] s.heap.size = A at hD ⊢
  have hA : ∀ q : Nat, s.heap.size ≤ q → A q := fun q h => by rw [← hAe]; exact Or.inr h
  have hS : va_S A s.heap s.heap [] := va_S.rf
  have hl := lv_entry ([.ref mo, .int (nI v), .int (nI n)]) (n := 5) (Nat.le_of_ble_eq_true rfl)
  rw [lg_entry_eq]
  generalize (lg_sl ([.ref mo, .int (nI v), .int (nI n)]) ++ List.replicate (5 - (lg_sl ([.ref mo, .int (nI v), .int (nI n)])).length) Slot.unset).toArray = ls at hl ⊢
  have hl : lv_has ls 5 [(0, .ref mo), (1, .int (nI v)), (2, .int (nI n))] := hl
  have hP : va_P D vwCl [oq7 mo mo_st mo_at mo_isKept (nI mo_pe) (nI mo_hm) mo_draft (nI mo_dp) (nI mo_dh) mo_toldLines mo_highest mo_tape (nI mo_tl) (nI mo_ps) (nI mo_fr) mo_sort mo_value (nI mo_ft) mo_wrongAt mo_row mo_orderMany (nI mo_fo) mo_lightest mo_heaviest mo_before mo_justSum mo_toldSum mo_allWays mo_lanes mo_sizes mo_cells mo_torn mo_had, oqI k mo_row 5 (rf)] s.heap := hP
  refine lv_iconst (v := 0) hx hb dX8_placeOf_0 hki_0 ?_
  refine lv_istore_n (lv' := [(3, .int 0), (0, .ref mo), (1, .int (nI v)), (2, .int (nI n))]) hx hb dX8_placeOf_1 rfl hl (Nat.le_of_ble_eq_true rfl) rfl (fun ls hl => ?_)
  refine lv_iconst (v := 0) hx hb dX8_placeOf_2 hki_0 ?_
  refine lv_istore (lv' := [(4, .int 0), (3, .int 0), (0, .ref mo), (1, .int (nI v)), (2, .int (nI n))]) hx hb dX8_placeOf_3 hl (Nat.le_of_ble_eq_true rfl) rfl (fun ls hl => ?_)
  refine hs_while (σ := Nat × Nat) (fun x => x.2 ≤ n ∧ x.1 = plcU rv v x.2) (fun x => n - x.2) (fun x => [oq7 mo mo_st mo_at mo_isKept (nI mo_pe) (nI mo_hm) mo_draft (nI mo_dp) (nI mo_dh) mo_toldLines mo_highest mo_tape (nI mo_tl) (nI mo_ps) (nI mo_fr) mo_sort mo_value (nI mo_ft) mo_wrongAt mo_row mo_orderMany (nI mo_fo) mo_lightest mo_heaviest mo_before mo_justSum mo_toldSum mo_allWays mo_lanes mo_sizes mo_cells mo_torn mo_had, oqI k mo_row 5 (rf)]) (fun x => [(4, .int (nI (x.2))), (3, .int (nI (x.1))), (0, .ref mo), (1, .int (nI v)), (2, .int (nI n))]) ?_ (0, 0) ?_ hP hD hS hl
  · intro x hI ih5 H locs ls hP hD hS hl
    obtain ⟨fo, i⟩ := x
    try dsimp only at hI
    have hP : va_P D vwCl [oq7 mo mo_st mo_at mo_isKept (nI mo_pe) (nI mo_hm) mo_draft (nI mo_dp) (nI mo_dh) mo_toldLines mo_highest mo_tape (nI mo_tl) (nI mo_ps) (nI mo_fr) mo_sort mo_value (nI mo_ft) mo_wrongAt mo_row mo_orderMany (nI mo_fo) mo_lightest mo_heaviest mo_before mo_justSum mo_toldSum mo_allWays mo_lanes mo_sizes mo_cells mo_torn mo_had, oqI k mo_row 5 (rf)] H := hP
    have hD : va_D A [oq7 mo mo_st mo_at mo_isKept (nI mo_pe) (nI mo_hm) mo_draft (nI mo_dp) (nI mo_dh) mo_toldLines mo_highest mo_tape (nI mo_tl) (nI mo_ps) (nI mo_fr) mo_sort mo_value (nI mo_ft) mo_wrongAt mo_row mo_orderMany (nI mo_fo) mo_lightest mo_heaviest mo_before mo_justSum mo_toldSum mo_allWays mo_lanes mo_sizes mo_cells mo_torn mo_had, oqI k mo_row 5 (rf)] := hD
    have hl : lv_has ls 5 [(4, .int (nI i)), (3, .int (nI fo)), (0, .ref mo), (1, .int (nI v)), (2, .int (nI n))] := hl
    refine lv_iload hx hb dX8_placeOf_5 (lv_at hl 0 rfl) ?_
    refine lv_iload_n hx hb dX8_placeOf_7 rfl (lv_at hl 4 rfl) ?_
    refine lv_icmp_ge (tgt := 35) hx hb dX8_placeOf_8 rfl (fun c_1 => ?_) (fun c_1 => ?_)
    · have nc_1 : n ≤ i := (nI_leI (a := n) (b := i) (by omega) (by omega)).mp c_1
      refine lv_iload_n hx hb dX8_placeOf_35 rfl (lv_at hl 1 rfl) ?_
      exact hs_iret hx hb hr hlocks hK hP hD hS () [0, 1] rfl (hs_upnd rfl) dX8_placeOf_36 (by rw [hI.2, show i = n by omega])
    · have nc_1 : ¬ n ≤ i := fun hq9 => c_1 ((nI_leI (a := n) (b := i) (by omega) (by omega)).mpr hq9)
      refine lv_aload_n hx hb dX8_placeOf_11 rfl (lv_at hl 2 rfl) ?_
      refine va_get (D := D) (ci := 7) (v := .ref mo_row) (C := RX8) (T := TX8) (N := 32) hx hb hts hiX8 hown hK hP 0 rfl rfl 18 (Nat.le_of_ble_eq_true rfl) fl26 (fun _ h9 => h9) rfl dX8_placeOf_12 ?_
      refine lv_iload hx hb dX8_placeOf_15 (lv_at hl 0 rfl) ?_
      refine va_iald hx hb hK hP 1 0 rfl rfl (vp_in_nI (show i < 5 by omega) (by decide)) dX8_placeOf_17 ?_
      have hri := (hrv i (by omega)).2
      refine hs_topi (nI (rv i)) (by rw [nI_clamp (by omega)]; exact (hrv i (by omega)).1) ?_
      refine lv_iload_n hx hb dX8_placeOf_18 rfl (lv_at hl 3 rfl) ?_
      refine lv_icmp_ne (tgt := 27) hx hb dX8_placeOf_19 rfl (fun c_2 => ?_) (fun c_2 => ?_)
      · have nc_2 : ¬ (rv i) = v := fun hq9 => c_2 ((nI_eq (a := (rv i)) (b := v) (by omega) (by omega)).mpr hq9)
        refine lv_iload_n hx hb dX8_placeOf_27 rfl (lv_at hl 1 rfl) ?_
        refine lv_istore_n (lv' := [(3, .int (nI fo)), (4, .int (nI i)), (0, .ref mo), (1, .int (nI v)), (2, .int (nI n))]) hx hb dX8_placeOf_28 rfl hl (Nat.le_of_ble_eq_true rfl) rfl (fun ls hl => ?_)
        refine lv_iinc (v := nI (i + 1)) (lv' := [(4, .int (nI (i + 1))), (3, .int (nI fo)), (0, .ref mo), (1, .int (nI v)), (2, .int (nI n))]) hx hb dX8_placeOf_29 hl (k := 1) rfl (nI_add (i) 1) (Nat.le_of_ble_eq_true rfl) rfl (fun ls hl => ?_)
        refine lv_goto (tgt := 5) hx hb dX8_placeOf_32 rfl ?_
        exact ih5 (fo, i + 1) (by (try dsimp only); exact ⟨by omega, by rw [plcU, if_neg nc_2]; exact hI.2⟩) (by (try dsimp only); omega) _ _ _ hP hD hS (lv_sub hl [0, 1, 2, 3, 4] rfl)
      · have nc_2 : (rv i) = v := (nI_eq (a := (rv i)) (b := v) (by omega) (by omega)).mp c_2
        refine lv_iload hx hb dX8_placeOf_22 (lv_at hl 0 rfl) ?_
        refine lv_goto (tgt := 28) hx hb dX8_placeOf_24 rfl ?_
        refine lv_istore_n (lv' := [(3, .int (nI i)), (4, .int (nI i)), (0, .ref mo), (1, .int (nI v)), (2, .int (nI n))]) hx hb dX8_placeOf_28 rfl hl (Nat.le_of_ble_eq_true rfl) rfl (fun ls hl => ?_)
        refine lv_iinc (v := nI (i + 1)) (lv' := [(4, .int (nI (i + 1))), (3, .int (nI i)), (0, .ref mo), (1, .int (nI v)), (2, .int (nI n))]) hx hb dX8_placeOf_29 hl (k := 1) rfl (nI_add (i) 1) (Nat.le_of_ble_eq_true rfl) rfl (fun ls hl => ?_)
        refine lv_goto (tgt := 5) hx hb dX8_placeOf_32 rfl ?_
        exact ih5 (i, i + 1) (by (try dsimp only); exact ⟨by omega, by rw [plcU, if_pos nc_2]⟩) (by (try dsimp only); omega) _ _ _ hP hD hS (lv_sub hl [0, 1, 2, 3, 4] rfl)
  · (try dsimp only); exact ⟨Nat.zero_le _, rfl⟩

set_option maxHeartbeats 4000000 in
set_option maxRecDepth 100000 in
theorem gr_isTold (l : Launch) (D : va_G) (k : Nat → ClassId) (sz : Nat) (mo : Nat) (mo_st : Nat) (mo_at : Nat) (mo_isKept : Nat) (mo_pe : Nat) (mo_hm : Nat) (mo_draft : Nat) (mo_dp : Nat) (mo_dh : Nat) (mo_toldLines : Int32) (mo_highest : Int32) (mo_tape : Nat) (mo_tl : Nat) (mo_ps : Nat) (mo_fr : Nat) (mo_sort : Int32) (mo_value : Int32) (mo_ft : Nat) (mo_wrongAt : Int32) (mo_row : Nat) (mo_orderMany : Int32) (mo_fo : Nat) (mo_lightest : Int32) (mo_heaviest : Int32) (mo_before : Nat) (mo_justSum : Int64) (mo_toldSum : Int64) (mo_allWays : Int64) (mo_lanes : Nat) (mo_sizes : Nat) (mo_cells : Nat) (mo_torn : Int32) (mo_had : Nat) (af : Nat → Int32) (rf : Nat → Int32) (n : Nat) (rv : Nat → Nat) (lt : Nat → Nat) (hv : Nat → Nat) (np : Nat) (hn : n ≤ 5) (hrv : ∀ j, j < n → (rf j = nI (rv j) ∧ rv j < 5)) (e3 : af 16 = nI np) (h3 : np ≤ 8) (hpa : ∀ k, k < np → (af (17 + k) = nI (10 * lt k + hv k) ∧ lt k < 5 ∧ hv k < 5)) : MI l yX8_isTold wsX8_isTold ({ frames := 1, cells := 0, slots := 0, locals := 24 }) D k [.ref mo, .int (nI n)] [oq7 mo mo_st mo_at mo_isKept (nI mo_pe) (nI mo_hm) mo_draft (nI mo_dp) (nI mo_dh) mo_toldLines mo_highest mo_tape (nI mo_tl) (nI mo_ps) (nI mo_fr) mo_sort mo_value (nI mo_ft) mo_wrongAt mo_row mo_orderMany (nI mo_fo) mo_lightest mo_heaviest mo_before mo_justSum mo_toldSum mo_allWays mo_lanes mo_sizes mo_cells mo_torn mo_had, oqI k mo_at 44 (af), oqI k mo_row 5 (rf)] sz (fun (r : Int32) (u : Unit) => r = hsb (tldB rv lt hv n np)) (fun (u : Unit) => [oq7 mo mo_st mo_at mo_isKept (nI mo_pe) (nI mo_hm) mo_draft (nI mo_dp) (nI mo_dh) mo_toldLines mo_highest mo_tape (nI mo_tl) (nI mo_ps) (nI mo_fr) mo_sort mo_value (nI mo_ft) mo_wrongAt mo_row mo_orderMany (nI mo_fo) mo_lightest mo_heaviest mo_before mo_justSum mo_toldSum mo_allWays mo_lanes mo_sizes mo_cells mo_torn mo_had, oqI k mo_at 44 (af), oqI k mo_row 5 (rf)]) := by
  refine Met.ofW (cc := cX8_isTold) (maxL := 4) (ret := (some .boolean)) hpn_X8 rfl ?_
  intro p e s m args below meth c s₁ B hml hv
  obtain ⟨rfl, hsz, hP, hK, hD0, hN⟩ := hv
  have hx := B.exec
  have hb := B.bytes
  have hr := B.returns
  have hlocks := B.notSynchronized
  have hts := atoms_spec (ws := wsX8_isTold) B.pre
  have hown := findClass_of_methodNamed B.named
  have hown : s.vm.findClass RX8 = some m.cls := hown
  have hiX8 : ∀ w ∈ u_ws RX8 TX8 32, w ∈ wsX8_isTold := fun w9 hw9 => List.mem_cons_of_mem _ (igX8 w9 hw9)
  have fl13 := hts (.fieldLink RX8 13 "HalfScalesModel" "at" "[I") (List.mem_cons_of_mem _ (hs_inG 4 81 rfl rfl))
  subst hsz
  have hD := hD0.self (sz := s.heap.size)
  generalize hAe : va_A [oq7 mo mo_st mo_at mo_isKept (nI mo_pe) (nI mo_hm) mo_draft (nI mo_dp) (nI mo_dh) mo_toldLines mo_highest mo_tape (nI mo_tl) (nI mo_ps) (nI mo_fr) mo_sort mo_value (nI mo_ft) mo_wrongAt mo_row mo_orderMany (nI mo_fo) mo_lightest mo_heaviest mo_before mo_justSum mo_toldSum mo_allWays mo_lanes mo_sizes mo_cells mo_torn mo_had, oqI k mo_at 44 (af), oqI k mo_row 5 (rf)] s.heap.size = A at hD ⊢
  have hA : ∀ q : Nat, s.heap.size ≤ q → A q := fun q h => by rw [← hAe]; exact Or.inr h
  have hS : va_S A s.heap s.heap [] := va_S.rf
  have hl := lv_entry ([.ref mo, .int (nI n)]) (n := 4) (Nat.le_of_ble_eq_true rfl)
  rw [lg_entry_eq]
  generalize (lg_sl ([.ref mo, .int (nI n)]) ++ List.replicate (4 - (lg_sl ([.ref mo, .int (nI n)])).length) Slot.unset).toArray = ls at hl ⊢
  have hl : lv_has ls 4 [(0, .ref mo), (1, .int (nI n))] := hl
  have hP : va_P D vwCl [oq7 mo mo_st mo_at mo_isKept (nI mo_pe) (nI mo_hm) mo_draft (nI mo_dp) (nI mo_dh) mo_toldLines mo_highest mo_tape (nI mo_tl) (nI mo_ps) (nI mo_fr) mo_sort mo_value (nI mo_ft) mo_wrongAt mo_row mo_orderMany (nI mo_fo) mo_lightest mo_heaviest mo_before mo_justSum mo_toldSum mo_allWays mo_lanes mo_sizes mo_cells mo_torn mo_had, oqI k mo_at 44 (af), oqI k mo_row 5 (rf)] s.heap := hP
  refine lv_iconst (v := 1) hx hb dX8_isTold_0 hki_1 ?_
  refine lv_istore_n (lv' := [(2, .int 1), (0, .ref mo), (1, .int (nI n))]) hx hb dX8_isTold_1 rfl hl (Nat.le_of_ble_eq_true rfl) rfl (fun ls hl => ?_)
  refine lv_iconst (v := 0) hx hb dX8_isTold_2 hki_0 ?_
  refine lv_istore_n (lv' := [(3, .int 0), (2, .int 1), (0, .ref mo), (1, .int (nI n))]) hx hb dX8_isTold_3 rfl hl (Nat.le_of_ble_eq_true rfl) rfl (fun ls hl => ?_)
  refine hs_while (σ := Int32 × Nat) (fun x => x.2 ≤ np ∧ x.1 = hsb (tldB rv lt hv n x.2)) (fun x => np - x.2) (fun x => [oq7 mo mo_st mo_at mo_isKept (nI mo_pe) (nI mo_hm) mo_draft (nI mo_dp) (nI mo_dh) mo_toldLines mo_highest mo_tape (nI mo_tl) (nI mo_ps) (nI mo_fr) mo_sort mo_value (nI mo_ft) mo_wrongAt mo_row mo_orderMany (nI mo_fo) mo_lightest mo_heaviest mo_before mo_justSum mo_toldSum mo_allWays mo_lanes mo_sizes mo_cells mo_torn mo_had, oqI k mo_at 44 (af), oqI k mo_row 5 (rf)]) (fun x => [(3, .int (nI (x.2))), (2, .int (x.1)), (0, .ref mo), (1, .int (nI n))]) ?_ (1, 0) ?_ hP hD hS hl
  · intro x hI ih4 H locs ls hP hD hS hl
    obtain ⟨iz, i⟩ := x
    try dsimp only at hI
    have hP : va_P D vwCl [oq7 mo mo_st mo_at mo_isKept (nI mo_pe) (nI mo_hm) mo_draft (nI mo_dp) (nI mo_dh) mo_toldLines mo_highest mo_tape (nI mo_tl) (nI mo_ps) (nI mo_fr) mo_sort mo_value (nI mo_ft) mo_wrongAt mo_row mo_orderMany (nI mo_fo) mo_lightest mo_heaviest mo_before mo_justSum mo_toldSum mo_allWays mo_lanes mo_sizes mo_cells mo_torn mo_had, oqI k mo_at 44 (af), oqI k mo_row 5 (rf)] H := hP
    have hD : va_D A [oq7 mo mo_st mo_at mo_isKept (nI mo_pe) (nI mo_hm) mo_draft (nI mo_dp) (nI mo_dh) mo_toldLines mo_highest mo_tape (nI mo_tl) (nI mo_ps) (nI mo_fr) mo_sort mo_value (nI mo_ft) mo_wrongAt mo_row mo_orderMany (nI mo_fo) mo_lightest mo_heaviest mo_before mo_justSum mo_toldSum mo_allWays mo_lanes mo_sizes mo_cells mo_torn mo_had, oqI k mo_at 44 (af), oqI k mo_row 5 (rf)] := hD
    have hl : lv_has ls 4 [(3, .int (nI i)), (2, .int iz), (0, .ref mo), (1, .int (nI n))] := hl
    refine lv_iload_n hx hb dX8_isTold_4 rfl (lv_at hl 0 rfl) ?_
    refine lv_aload_n hx hb dX8_isTold_5 rfl (lv_at hl 2 rfl) ?_
    refine va_get (D := D) (ci := 7) (v := .ref mo_at) (C := RX8) (T := TX8) (N := 32) hx hb hts hiX8 hown hK hP 0 rfl rfl 1 (Nat.le_of_ble_eq_true rfl) fl13 (fun _ h9 => h9) rfl dX8_isTold_6 ?_
    refine lv_bipush (v := 16) hx hb dX8_isTold_9 hkb_16 ?_
    refine va_iald hx hb hK hP 1 0 rfl rfl (hs_in (by decide)) dX8_isTold_11 ?_
    refine hs_topi (nI np) e3 ?_
    refine lv_icmp_ge (tgt := 68) hx hb dX8_isTold_12 rfl (fun c_1 => ?_) (fun c_1 => ?_)
    · have nc_1 : np ≤ i := (nI_leI (a := np) (b := i) (by omega) (by omega)).mp c_1
      refine lv_iload_n hx hb dX8_isTold_68 rfl (lv_at hl 1 rfl) ?_
      exact hs_zret hx hb hr hlocks hK hP hD hS () [0, 1, 2] rfl (hs_upnd rfl) dX8_isTold_69 (by rw [hI.2]; exact hsb_nar) (by rw [hI.2, show i = np by omega])
    · have nc_1 : ¬ np ≤ i := fun hq9 => c_1 ((nI_leI (a := np) (b := i) (by omega) (by omega)).mpr hq9)
      refine lv_iload_n hx hb dX8_isTold_15 rfl (lv_at hl 1 rfl) ?_
      refine lv_if_eq (tgt := 60) hx hb dX8_isTold_16 rfl (fun c_2 => ?_) (fun c_2 => ?_)
      · refine lv_iconst (v := 0) hx hb dX8_isTold_60 hki_0 ?_
        refine lv_istore_n (lv' := [(2, .int 0), (3, .int (nI i)), (0, .ref mo), (1, .int (nI n))]) hx hb dX8_isTold_61 rfl hl (Nat.le_of_ble_eq_true rfl) rfl (fun ls hl => ?_)
        refine lv_iinc (v := nI (i + 1)) (lv' := [(3, .int (nI (i + 1))), (2, .int 0), (0, .ref mo), (1, .int (nI n))]) hx hb dX8_isTold_62 hl (k := 1) rfl (nI_add (i) 1) (Nat.le_of_ble_eq_true rfl) rfl (fun ls hl => ?_)
        refine lv_goto (tgt := 4) hx hb dX8_isTold_65 rfl ?_
        exact ih4 (0, i + 1) (by (try dsimp only); exact ⟨by omega, by rw [tldB, hs_n0 (hI.2.symm.trans c_2), Bool.false_and]; rfl⟩) (by (try dsimp only); omega) _ _ _ hP hD hS (lv_sub hl [0, 1, 2, 3] rfl)
      · refine lv_aload_n hx hb dX8_isTold_19 rfl (lv_at hl 2 rfl) ?_
        refine lv_aload_n hx hb dX8_isTold_20 rfl (lv_at hl 2 rfl) ?_
        refine va_get (D := D) (ci := 7) (v := .ref mo_at) (C := RX8) (T := TX8) (N := 32) hx hb hts hiX8 hown hK hP 0 rfl rfl 1 (Nat.le_of_ble_eq_true rfl) fl13 (fun _ h9 => h9) rfl dX8_isTold_21 ?_
        refine lv_bipush (v := 17) hx hb dX8_isTold_24 hkb_17 ?_
        refine lv_iload_n hx hb dX8_isTold_26 rfl (lv_at hl 0 rfl) ?_
        refine lv_iadd hx hb dX8_isTold_27 ?_
        refine hs_topi (nI (17 + i)) (nI_add (17) (i)) ?_
        refine va_iald hx hb hK hP 1 0 rfl rfl (vp_in_nI (show (17 + i) < 44 by omega) (by decide)) dX8_isTold_28 ?_
        have hpi := (hpa i (by omega)).2
        refine hs_topi (nI (10 * lt i + hv i)) (by rw [nI_clamp (by omega)]; exact (hpa i (by omega)).1) ?_
        refine lv_bipush (v := 10) hx hb dX8_isTold_29 hkb_10 ?_
        refine lv_idiv hx hb dX8_isTold_31 (by decide) ?_
        refine hs_topi (nI (lt i)) (Eq.trans (show nI (10 * lt i + hv i) / 10 = nI ((10 * lt i + hv i) / 10) from pk_div (d := 10) (by omega) (by decide) (by decide)) (congrArg nI (by omega))) ?_
        refine lv_iload_n hx hb dX8_isTold_32 rfl (lv_at hl 3 rfl) ?_
        refine hs_ciM (va_runV (As := [.int (nI (lt i)), .int (nI n)]) (rest := []) ⟨hx, hb, hml, hown, hts⟩ (gr_placeOf l D k _ mo mo_st mo_at mo_isKept mo_pe mo_hm mo_draft mo_dp mo_dh mo_toldLines mo_highest mo_tape mo_tl mo_ps mo_fr mo_sort mo_value mo_ft mo_wrongAt mo_row mo_orderMany mo_fo mo_lightest mo_heaviest mo_before mo_justSum mo_toldSum mo_allWays mo_lanes mo_sizes mo_cells mo_torn mo_had rf (lt i) n rv (by omega) (by omega) hrv) (cwV 2 hts gX8_isTold_X8_placeOf rfl rfl rfl ⟨rfl, hq_X8_placeOf⟩ ⟨Nat.le_of_ble_eq_true rfl, Nat.le_of_ble_eq_true rfl⟩) (hs_preV hK hN (hs_subP (w := [_, _]) hP [0, 2] rfl) (hD.sub (ws' := [_, _]) [0, 2] (hs_upnd rfl) rfl) (ci := 7) (q0 := 0) rfl rfl) rfl rfl hl.1 rfl (lv_room (Nat.le_of_ble_eq_true rfl)) dX8_isTold_33 ⟨Nat.le_of_ble_eq_true rfl, Nat.le_of_ble_eq_true rfl⟩) hP hD hS hA [false, true, false] [_] [_, _] rfl [0, 1] rfl [0, 1] (fun u_5 => [_, _]) (fun _ => rfl) (hs_upnd rfl) [false, true, false] (fun u_5 => [_, _, _]) (fun _ => rfl) (fun r_3 u_5 H locs hw_4 hP hD hS => ?_)
        refine hs_topi (nI (plcU rv (lt i) n)) hw_4 ?_
        refine lv_aload_n hx hb dX8_isTold_36 rfl (lv_at hl 2 rfl) ?_
        refine lv_aload_n hx hb dX8_isTold_37 rfl (lv_at hl 2 rfl) ?_
        refine va_get (D := D) (ci := 7) (v := .ref mo_at) (C := RX8) (T := TX8) (N := 32) hx hb hts hiX8 hown hK hP 0 rfl rfl 1 (Nat.le_of_ble_eq_true rfl) fl13 (fun _ h9 => h9) rfl dX8_isTold_38 ?_
        refine lv_bipush (v := 17) hx hb dX8_isTold_41 hkb_17 ?_
        refine lv_iload_n hx hb dX8_isTold_43 rfl (lv_at hl 0 rfl) ?_
        refine lv_iadd hx hb dX8_isTold_44 ?_
        refine hs_topi (nI (17 + i)) (nI_add (17) (i)) ?_
        refine va_iald hx hb hK hP 1 0 rfl rfl (vp_in_nI (show (17 + i) < 44 by omega) (by decide)) dX8_isTold_45 ?_
        have hpi := (hpa i (by omega)).2
        refine hs_topi (nI (10 * lt i + hv i)) (by rw [nI_clamp (by omega)]; exact (hpa i (by omega)).1) ?_
        refine lv_bipush (v := 10) hx hb dX8_isTold_46 hkb_10 ?_
        refine lv_irem hx hb dX8_isTold_48 (by decide) ?_
        refine hs_topi (nI (hv i)) (Eq.trans (show nI (10 * lt i + hv i) - nI (10 * lt i + hv i) / 10 * 10 = nI ((10 * lt i + hv i) % 10) from pk_rem (d := 10) (by omega) (by decide) (by decide)) (congrArg nI (by omega))) ?_
        refine lv_iload_n hx hb dX8_isTold_49 rfl (lv_at hl 3 rfl) ?_
        refine hs_ciM (va_runV (As := [.int (nI (hv i)), .int (nI n)]) (rest := [.int (nI (plcU rv (lt i) n))]) ⟨hx, hb, hml, hown, hts⟩ (gr_placeOf l D k _ mo mo_st mo_at mo_isKept mo_pe mo_hm mo_draft mo_dp mo_dh mo_toldLines mo_highest mo_tape mo_tl mo_ps mo_fr mo_sort mo_value mo_ft mo_wrongAt mo_row mo_orderMany mo_fo mo_lightest mo_heaviest mo_before mo_justSum mo_toldSum mo_allWays mo_lanes mo_sizes mo_cells mo_torn mo_had rf (hv i) n rv (by omega) (by omega) hrv) (cwV 2 hts gX8_isTold_X8_placeOf rfl rfl rfl ⟨rfl, hq_X8_placeOf⟩ ⟨Nat.le_of_ble_eq_true rfl, Nat.le_of_ble_eq_true rfl⟩) (hs_preV hK hN (hs_subP (w := [_, _]) hP [0, 2] rfl) (hD.sub (ws' := [_, _]) [0, 2] (hs_upnd rfl) rfl) (ci := 7) (q0 := 0) rfl rfl) rfl rfl hl.1 rfl (lv_room (Nat.le_of_ble_eq_true rfl)) dX8_isTold_50 ⟨Nat.le_of_ble_eq_true rfl, Nat.le_of_ble_eq_true rfl⟩) hP hD hS hA [false, true, false] [_] [_, _] rfl [0, 1] rfl [0, 1] (fun u_8 => [_, _]) (fun _ => rfl) (hs_upnd rfl) [false, true, false] (fun u_8 => [_, _, _]) (fun _ => rfl) (fun r_6 u_8 H locs hw_7 hP hD hS => ?_)
        refine hs_topi (nI (plcU rv (hv i) n)) hw_7 ?_
        have hq1 := plcU_le rv (lt i) n
        have hq2 := plcU_le rv (hv i) n
        refine lv_icmp_ge (tgt := 60) hx hb dX8_isTold_53 rfl (fun c_9 => ?_) (fun c_9 => ?_)
        · have nc_9 : (plcU rv (hv i) n) ≤ (plcU rv (lt i) n) := (nI_leI (a := (plcU rv (hv i) n)) (b := (plcU rv (lt i) n)) (by omega) (by omega)).mp c_9
          refine lv_iconst (v := 0) hx hb dX8_isTold_60 hki_0 ?_
          refine lv_istore_n (lv' := [(2, .int 0), (3, .int (nI i)), (0, .ref mo), (1, .int (nI n))]) hx hb dX8_isTold_61 rfl hl (Nat.le_of_ble_eq_true rfl) rfl (fun ls hl => ?_)
          refine lv_iinc (v := nI (i + 1)) (lv' := [(3, .int (nI (i + 1))), (2, .int 0), (0, .ref mo), (1, .int (nI n))]) hx hb dX8_isTold_62 hl (k := 1) rfl (nI_add (i) 1) (Nat.le_of_ble_eq_true rfl) rfl (fun ls hl => ?_)
          refine lv_goto (tgt := 4) hx hb dX8_isTold_65 rfl ?_
          exact ih4 (0, i + 1) (by (try dsimp only); exact ⟨by omega, by rw [tldB, decide_eq_false (by omega), Bool.and_false]; rfl⟩) (by (try dsimp only); omega) _ _ _ hP hD hS (lv_sub hl [0, 1, 2, 3] rfl)
        · have nc_9 : ¬ (plcU rv (hv i) n) ≤ (plcU rv (lt i) n) := fun hq9 => c_9 ((nI_leI (a := (plcU rv (hv i) n)) (b := (plcU rv (lt i) n)) (by omega) (by omega)).mpr hq9)
          refine lv_iconst (v := 1) hx hb dX8_isTold_56 hki_1 ?_
          refine lv_goto (tgt := 61) hx hb dX8_isTold_57 rfl ?_
          refine lv_istore_n (lv' := [(2, .int 1), (3, .int (nI i)), (0, .ref mo), (1, .int (nI n))]) hx hb dX8_isTold_61 rfl hl (Nat.le_of_ble_eq_true rfl) rfl (fun ls hl => ?_)
          refine lv_iinc (v := nI (i + 1)) (lv' := [(3, .int (nI (i + 1))), (2, .int 1), (0, .ref mo), (1, .int (nI n))]) hx hb dX8_isTold_62 hl (k := 1) rfl (nI_add (i) 1) (Nat.le_of_ble_eq_true rfl) rfl (fun ls hl => ?_)
          refine lv_goto (tgt := 4) hx hb dX8_isTold_65 rfl ?_
          exact ih4 (1, i + 1) (by (try dsimp only); exact ⟨by omega, by rw [tldB, hs_nb (fun z9 => c_2 (hI.2.trans z9)), decide_eq_true (by omega)]; rfl⟩) (by (try dsimp only); omega) _ _ _ hP hD hS (lv_sub hl [0, 1, 2, 3] rfl)
  · (try dsimp only); exact ⟨Nat.zero_le _, rfl⟩

set_option maxHeartbeats 4000000 in
set_option maxRecDepth 100000 in
theorem gr_isOrder (l : Launch) (D : va_G) (k : Nat → ClassId) (sz : Nat) (mo : Nat) (mo_st : Nat) (mo_at : Nat) (mo_isKept : Nat) (mo_pe : Nat) (mo_hm : Nat) (mo_draft : Nat) (mo_dp : Nat) (mo_dh : Nat) (mo_toldLines : Int32) (mo_highest : Int32) (mo_tape : Nat) (mo_tl : Nat) (mo_ps : Nat) (mo_fr : Nat) (mo_sort : Int32) (mo_value : Int32) (mo_ft : Nat) (mo_wrongAt : Int32) (mo_row : Nat) (mo_orderMany : Int32) (mo_fo : Nat) (mo_lightest : Int32) (mo_heaviest : Int32) (mo_before : Nat) (mo_justSum : Int64) (mo_toldSum : Int64) (mo_allWays : Int64) (mo_lanes : Nat) (mo_sizes : Nat) (mo_cells : Nat) (mo_torn : Int32) (mo_had : Nat) (rf : Nat → Int32) (nb : Nat) (n : Nat) (hb30 : nb < 2 ^ 30) (hn1 : 1 ≤ n) (hn : n ≤ 5) : MI l yX8_isOrder wsX8_isOrder ({ frames := 0, cells := 0, slots := 0, locals := 0 }) D k [.ref mo, .int (nI nb), .int (nI n)] [oq7 mo mo_st mo_at mo_isKept (nI mo_pe) (nI mo_hm) mo_draft (nI mo_dp) (nI mo_dh) mo_toldLines mo_highest mo_tape (nI mo_tl) (nI mo_ps) (nI mo_fr) mo_sort mo_value (nI mo_ft) mo_wrongAt mo_row mo_orderMany (nI mo_fo) mo_lightest mo_heaviest mo_before mo_justSum mo_toldSum mo_allWays mo_lanes mo_sizes mo_cells mo_torn mo_had, oqI k mo_row 5 (rf)] sz (fun (r : Int32) (u : Nat → Int32) => r = hsb (decide (hs2 n nb n = 2 ^ n - 1)) ∧ ∀ j, j < n → (u j = nI (hdg n nb j) ∧ hdg n nb j < n)) (fun (u : Nat → Int32) => [oq7 mo mo_st mo_at mo_isKept (nI mo_pe) (nI mo_hm) mo_draft (nI mo_dp) (nI mo_dh) mo_toldLines mo_highest mo_tape (nI mo_tl) (nI mo_ps) (nI mo_fr) mo_sort mo_value (nI mo_ft) mo_wrongAt mo_row mo_orderMany (nI mo_fo) mo_lightest mo_heaviest mo_before mo_justSum mo_toldSum mo_allWays mo_lanes mo_sizes mo_cells mo_torn mo_had, oqI k mo_row 5 (u)]) := by
  refine Met.ofW (cc := cX8_isOrder) (maxL := 6) (ret := (some .boolean)) hpn_X8 rfl ?_
  intro p e s m args below meth c s₁ B hml hv
  obtain ⟨rfl, hsz, hP, hK, hD0, hN⟩ := hv
  have hx := B.exec
  have hb := B.bytes
  have hr := B.returns
  have hlocks := B.notSynchronized
  have hts := atoms_spec (ws := wsX8_isOrder) B.pre
  have hown := findClass_of_methodNamed B.named
  have hown : s.vm.findClass RX8 = some m.cls := hown
  have hiX8 : ∀ w ∈ u_ws RX8 TX8 32, w ∈ wsX8_isOrder := fun w9 hw9 => List.mem_cons_of_mem _ (igX8 w9 hw9)
  have fl26 := hts (.fieldLink RX8 26 "HalfScalesModel" "row" "[I") (List.mem_cons_of_mem _ (hs_inG 4 98 rfl rfl))
  have hp1 : 1 ≤ 2 ^ n := Nat.one_le_two_pow
  have hp2 : 2 ^ n ≤ 32 := Nat.le_trans (Nat.pow_le_pow_right (n := 2) (by decide) hn) (by decide)
  subst hsz
  have hD := hD0.self (sz := s.heap.size)
  generalize hAe : va_A [oq7 mo mo_st mo_at mo_isKept (nI mo_pe) (nI mo_hm) mo_draft (nI mo_dp) (nI mo_dh) mo_toldLines mo_highest mo_tape (nI mo_tl) (nI mo_ps) (nI mo_fr) mo_sort mo_value (nI mo_ft) mo_wrongAt mo_row mo_orderMany (nI mo_fo) mo_lightest mo_heaviest mo_before mo_justSum mo_toldSum mo_allWays mo_lanes mo_sizes mo_cells mo_torn mo_had, oqI k mo_row 5 (rf)] s.heap.size = A at hD ⊢
  have hA : ∀ q : Nat, s.heap.size ≤ q → A q := fun q h => by rw [← hAe]; exact Or.inr h
  have hS : va_S A s.heap s.heap [] := va_S.rf
  have hl := lv_entry ([.ref mo, .int (nI nb), .int (nI n)]) (n := 6) (Nat.le_of_ble_eq_true rfl)
  rw [lg_entry_eq]
  generalize (lg_sl ([.ref mo, .int (nI nb), .int (nI n)]) ++ List.replicate (6 - (lg_sl ([.ref mo, .int (nI nb), .int (nI n)])).length) Slot.unset).toArray = ls at hl ⊢
  have hl : lv_has ls 6 [(0, .ref mo), (1, .int (nI nb)), (2, .int (nI n))] := hl
  have hP : va_P D vwCl [oq7 mo mo_st mo_at mo_isKept (nI mo_pe) (nI mo_hm) mo_draft (nI mo_dp) (nI mo_dh) mo_toldLines mo_highest mo_tape (nI mo_tl) (nI mo_ps) (nI mo_fr) mo_sort mo_value (nI mo_ft) mo_wrongAt mo_row mo_orderMany (nI mo_fo) mo_lightest mo_heaviest mo_before mo_justSum mo_toldSum mo_allWays mo_lanes mo_sizes mo_cells mo_torn mo_had, oqI k mo_row 5 (rf)] s.heap := hP
  refine lv_iload_n hx hb dX8_isOrder_0 rfl (lv_at hl 1 rfl) ?_
  refine lv_istore_n (lv' := [(3, .int (nI nb)), (0, .ref mo), (1, .int (nI nb)), (2, .int (nI n))]) hx hb dX8_isOrder_1 rfl hl (Nat.le_of_ble_eq_true rfl) rfl (fun ls hl => ?_)
  refine lv_iconst (v := 0) hx hb dX8_isOrder_2 hki_0 ?_
  refine lv_istore (lv' := [(4, .int 0), (3, .int (nI nb)), (0, .ref mo), (1, .int (nI nb)), (2, .int (nI n))]) hx hb dX8_isOrder_3 hl (Nat.le_of_ble_eq_true rfl) rfl (fun ls hl => ?_)
  refine lv_iload_n hx hb dX8_isOrder_5 rfl (lv_at hl 4 rfl) ?_
  refine lv_iconst (v := 1) hx hb dX8_isOrder_6 hki_1 ?_
  refine lv_isub hx hb dX8_isOrder_7 ?_
  refine lv_istore (lv' := [(5, .int ((nI n) - 1)), (4, .int 0), (3, .int (nI nb)), (0, .ref mo), (1, .int (nI nb)), (2, .int (nI n))]) hx hb dX8_isOrder_8 hl (Nat.le_of_ble_eq_true rfl) rfl (fun ls hl => ?_)
  refine hs_while (σ := Nat × Nat × Nat × (Nat → Int32)) (fun x => x.2.2.1 ≤ n ∧ x.1 = nb / n ^ (n - x.2.2.1) ∧ x.2.1 = hs2 n nb (n - x.2.2.1) ∧ x.2.1 < 32 ∧ x.1 < 2 ^ 30 ∧ ∀ j, x.2.2.1 ≤ j → j < n → x.2.2.2 j = nI (hdg n nb j)) (fun x => x.2.2.1) (fun x => [oq7 mo mo_st mo_at mo_isKept (nI mo_pe) (nI mo_hm) mo_draft (nI mo_dp) (nI mo_dh) mo_toldLines mo_highest mo_tape (nI mo_tl) (nI mo_ps) (nI mo_fr) mo_sort mo_value (nI mo_ft) mo_wrongAt mo_row mo_orderMany (nI mo_fo) mo_lightest mo_heaviest mo_before mo_justSum mo_toldSum mo_allWays mo_lanes mo_sizes mo_cells mo_torn mo_had, oqI k mo_row 5 ((x.2.2.2))]) (fun x => [(5, .int ((nI (x.2.2.1)) - 1)), (4, .int (nI (x.2.1))), (3, .int (nI (x.1))), (0, .ref mo), (1, .int (nI nb)), (2, .int (nI n))]) ?_ (nb, 0, n, rf) ?_ hP hD hS hl
  · intro x hI ih10 H locs ls hP hD hS hl
    obtain ⟨lf, sm, xx, rg⟩ := x
    try dsimp only at hI
    have hP : va_P D vwCl [oq7 mo mo_st mo_at mo_isKept (nI mo_pe) (nI mo_hm) mo_draft (nI mo_dp) (nI mo_dh) mo_toldLines mo_highest mo_tape (nI mo_tl) (nI mo_ps) (nI mo_fr) mo_sort mo_value (nI mo_ft) mo_wrongAt mo_row mo_orderMany (nI mo_fo) mo_lightest mo_heaviest mo_before mo_justSum mo_toldSum mo_allWays mo_lanes mo_sizes mo_cells mo_torn mo_had, oqI k mo_row 5 (rg)] H := hP
    have hD : va_D A [oq7 mo mo_st mo_at mo_isKept (nI mo_pe) (nI mo_hm) mo_draft (nI mo_dp) (nI mo_dh) mo_toldLines mo_highest mo_tape (nI mo_tl) (nI mo_ps) (nI mo_fr) mo_sort mo_value (nI mo_ft) mo_wrongAt mo_row mo_orderMany (nI mo_fo) mo_lightest mo_heaviest mo_before mo_justSum mo_toldSum mo_allWays mo_lanes mo_sizes mo_cells mo_torn mo_had, oqI k mo_row 5 (rg)] := hD
    have hl : lv_has ls 6 [(5, .int ((nI xx) - 1)), (4, .int (nI sm)), (3, .int (nI lf)), (0, .ref mo), (1, .int (nI nb)), (2, .int (nI n))] := hl
    refine lv_iload hx hb dX8_isOrder_10 (lv_at hl 0 rfl) ?_
    refine lv_if_lt (tgt := 49) hx hb dX8_isOrder_12 rfl (fun c_1 => ?_) (fun c_1 => ?_)
    · have hx0 : xx = 0 := by have hz : ¬ 1 ≤ xx := (fun h1 => absurd c_1 (by rw [hs_pre_eq h1]; exact nI_pos (by omega))); omega
      have hsm9 : sm = hs2 n nb n := by rw [hI.2.2.1, hx0, Nat.sub_zero]
      refine lv_iload hx hb dX8_isOrder_49 (lv_at hl 1 rfl) ?_
      refine lv_iconst (v := 1) hx hb dX8_isOrder_51 hki_1 ?_
      refine lv_iload_n hx hb dX8_isOrder_52 rfl (lv_at hl 5 rfl) ?_
      refine lv_ishl hx hb dX8_isOrder_53 ?_
      refine hs_topi (nI (2 ^ n)) (hs_shl (by omega)) ?_
      refine lv_iconst (v := 1) hx hb dX8_isOrder_54 hki_1 ?_
      refine lv_isub hx hb dX8_isOrder_55 ?_
      refine hs_topi (nI ((2 ^ n) - 1)) (pk_sub (a := (2 ^ n)) (b := 1) (by omega)) ?_
      refine lv_icmp_ne (tgt := 63) hx hb dX8_isOrder_56 rfl (fun c_2 => ?_) (fun c_2 => ?_)
      · have nc_2 : ¬ sm = ((2 ^ n) - 1) := fun hq9 => c_2 ((nI_eq (a := sm) (b := ((2 ^ n) - 1)) (by omega) (by omega)).mpr hq9)
        refine lv_iconst (v := 0) hx hb dX8_isOrder_63 hki_0 ?_
        exact hs_zret hx hb hr hlocks hK hP hD hS rg [0, 1] rfl (hs_upnd rfl) dX8_isOrder_64 rfl (⟨(by rw [decide_eq_false (by rw [← hsm9]; exact nc_2)]; rfl), fun j hj => ⟨hI.2.2.2.2.2 j (by omega) hj, Nat.mod_lt _ (by omega)⟩⟩)
      · have nc_2 : sm = ((2 ^ n) - 1) := (nI_eq (a := sm) (b := ((2 ^ n) - 1)) (by omega) (by omega)).mp c_2
        refine lv_iconst (v := 1) hx hb dX8_isOrder_59 hki_1 ?_
        refine lv_goto (tgt := 64) hx hb dX8_isOrder_60 rfl ?_
        exact hs_zret hx hb hr hlocks hK hP hD hS rg [0, 1] rfl (hs_upnd rfl) dX8_isOrder_64 rfl (⟨(by rw [decide_eq_true (by rw [← hsm9]; exact nc_2)]; rfl), fun j hj => ⟨hI.2.2.2.2.2 j (by omega) hj, Nat.mod_lt _ (by omega)⟩⟩)
    · refine lv_aload_n hx hb dX8_isOrder_15 rfl (lv_at hl 3 rfl) ?_
      refine va_get (D := D) (ci := 7) (v := .ref mo_row) (C := RX8) (T := TX8) (N := 32) hx hb hts hiX8 hown hK hP 0 rfl rfl 18 (Nat.le_of_ble_eq_true rfl) fl26 (fun _ h9 => h9) rfl dX8_isOrder_16 ?_
      refine lv_iload hx hb dX8_isOrder_19 (lv_at hl 0 rfl) ?_
      refine lv_iload_n hx hb dX8_isOrder_21 rfl (lv_at hl 2 rfl) ?_
      refine lv_iload_n hx hb dX8_isOrder_22 rfl (lv_at hl 5 rfl) ?_
      refine lv_irem hx hb dX8_isOrder_23 (nI_ne0 (by omega) (by omega)) ?_
      have hx1 := hs_prege (x := xx) (by omega) c_1
      have hml := Nat.mod_lt lf (show 0 < n by omega)
      have hdl := Nat.div_le_self lf n
      refine hs_topi (nI (lf % n)) (pk_rem (a := lf) (d := n) (by omega) (by omega) (by omega)) ?_
      refine va_iast hx hb hK hP hD hS 1 0 rfl rfl (by rw [hs_pre_eq (hs_prege (by omega) c_1)]; exact vp_in_nI (by omega) (by decide)) dX8_isOrder_24 (fun H locs hP hD hS => ?_)
      have hP : va_P D vwCl [_, oqI k mo_row 5 (upd rg (((nI xx) - 1).toNatClampNeg) (nI (lf % n)))] H := hP
      have hD : va_D A [_, oqI k mo_row 5 (upd rg (((nI xx) - 1).toNatClampNeg) (nI (lf % n)))] := hD
      refine lv_iload_n hx hb dX8_isOrder_25 rfl (lv_at hl 2 rfl) ?_
      refine lv_iload_n hx hb dX8_isOrder_26 rfl (lv_at hl 5 rfl) ?_
      refine lv_idiv hx hb dX8_isOrder_27 (nI_ne0 (by omega) (by omega)) ?_
      refine hs_topi (nI (lf / n)) (pk_div (a := lf) (d := n) (by omega) (by omega) (by omega)) ?_
      refine lv_istore_n (lv' := [(3, .int (nI (lf / n))), (5, .int ((nI xx) - 1)), (4, .int (nI sm)), (0, .ref mo), (1, .int (nI nb)), (2, .int (nI n))]) hx hb dX8_isOrder_28 rfl hl (Nat.le_of_ble_eq_true rfl) rfl (fun ls hl => ?_)
      refine lv_iload hx hb dX8_isOrder_29 (lv_at hl 2 rfl) ?_
      refine lv_iconst (v := 1) hx hb dX8_isOrder_31 hki_1 ?_
      refine lv_aload_n hx hb dX8_isOrder_32 rfl (lv_at hl 3 rfl) ?_
      refine va_get (D := D) (ci := 7) (v := .ref mo_row) (C := RX8) (T := TX8) (N := 32) hx hb hts hiX8 hown hK hP 0 rfl rfl 18 (Nat.le_of_ble_eq_true rfl) fl26 (fun _ h9 => h9) rfl dX8_isOrder_33 ?_
      refine lv_iload hx hb dX8_isOrder_36 (lv_at hl 1 rfl) ?_
      refine va_iald hx hb hK hP 1 0 rfl rfl (by rw [hs_pre_eq (hs_prege (by omega) c_1)]; exact vp_in_nI (by omega) (by decide)) dX8_isOrder_38 ?_
      refine hs_topi (nI (lf % n)) (hs_uq rfl) ?_
      refine lv_ishl hx hb dX8_isOrder_39 ?_
      refine lv_ior hx hb dX8_isOrder_40 ?_
      have hsm2 : sm ||| 2 ^ (lf % n) < 32 := Nat.or_lt_two_pow (n := 5) (by omega) (Nat.pow_lt_pow_right (by decide) (by omega))
      refine hs_topi (nI (sm ||| 2 ^ (lf % n))) (hs_or5 sm (by omega) (lf % n) (by omega)) ?_
      refine lv_istore (lv' := [(4, .int (nI (sm ||| 2 ^ (lf % n)))), (3, .int (nI (lf / n))), (5, .int ((nI xx) - 1)), (0, .ref mo), (1, .int (nI nb)), (2, .int (nI n))]) hx hb dX8_isOrder_41 hl (Nat.le_of_ble_eq_true rfl) rfl (fun ls hl => ?_)
      refine lv_iinc (v := (nI (xx - 1)) - 1) (lv' := [(5, .int ((nI (xx - 1)) - 1)), (4, .int (nI (sm ||| 2 ^ (lf % n)))), (3, .int (nI (lf / n))), (0, .ref mo), (1, .int (nI nb)), (2, .int (nI n))]) hx hb dX8_isOrder_43 hl (k := 2) rfl (hs_pre_dec hx1) (Nat.le_of_ble_eq_true rfl) rfl (fun ls hl => ?_)
      refine lv_goto (tgt := 10) hx hb dX8_isOrder_46 rfl ?_
      exact ih10 (lf / n, sm ||| 2 ^ (lf % n), xx - 1, upd rg (((nI xx) - 1).toNatClampNeg) (nI (lf % n))) (by (try dsimp only); exact ⟨by omega, by rw [show n - (xx - 1) = (n - xx) + 1 by omega, Nat.pow_succ, ← Nat.div_div_eq_div_mul, ← hI.2.1], by rw [show n - (xx - 1) = (n - xx) + 1 by omega, hs2_s, ← hI.2.1, ← hI.2.2.1], hsm2, by omega, hs_row2 hx1 (by omega) (by omega) hI.2.1 hI.2.2.2.2.2⟩) (by (try dsimp only); omega) _ _ _ hP hD hS (lv_sub hl [0, 1, 2, 3, 4, 5] rfl)
  · (try dsimp only); exact ⟨Nat.le_refl _, by rw [Nat.sub_self, Nat.pow_zero, Nat.div_one], by rw [Nat.sub_self]; rfl, by decide, by omega, fun j h1 h2 => absurd h2 (by omega)⟩
