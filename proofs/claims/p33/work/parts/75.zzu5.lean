set_option maxHeartbeats 4000000 in
set_option maxRecDepth 100000 in
theorem gf_isAsSeen (l : Launch) (D : va_G) (k : Nat → ClassId) (sz : Nat) (t : Nat) (t_a : Nat → Nat) (t_N : Nat → Nat) (t_J : Nat → Int32) (t_F : Nat → Nat → Int32) (hN0 : thN t_N) (hF : thF t_N t_F) : MI l yX6_isAsSeen wsX6_isAsSeen ({ frames := 3, cells := 0, slots := 0, locals := 73 }) D k [.ref t] [oqT t t_a t_N t_J, oqF0 k t_a t_F, oqF1 k t_a t_F, oqF2 k t_a t_F, oqF3 k t_a t_F, oqF4 k t_a t_F, oqF5 k t_a t_F, oqF6 k t_a t_F] sz (fun (r : Int32) (u : Unit) => r = hsb (A_asC t_N t_J t_F (t_N 4))) (fun (u : Unit) => [oqT t t_a t_N t_J, oqF0 k t_a t_F, oqF1 k t_a t_F, oqF2 k t_a t_F, oqF3 k t_a t_F, oqF4 k t_a t_F, oqF5 k t_a t_F, oqF6 k t_a t_F]) := by
  refine Met.ofW (cc := cX6_isAsSeen) (maxL := 2) (ret := (some .boolean)) hpn_X6 rfl ?_
  intro p e s m args below meth c s₁ B hml hv
  obtain ⟨rfl, hsz, hP, hK, hD0, hN⟩ := hv
  have hx := B.exec
  have hb := B.bytes
  have hr := B.returns
  have hlocks := B.notSynchronized
  have hts := atoms_spec (ws := wsX6_isAsSeen) B.pre
  have hown := findClass_of_methodNamed B.named
  have hown : s.vm.findClass RX6 = some m.cls := hown
  have hiX6 : ∀ w ∈ u_ws RX6 TX6 15, w ∈ wsX6_isAsSeen := fun w9 hw9 => List.mem_cons_of_mem _ (igX6 w9 hw9)
  have fl58 := hts (.fieldLink RX6 58 "HalfScales$Thing" "seenCount" "I") (List.mem_cons_of_mem _ (hs_inG 1 76 rfl rfl))
  have fl27 := hts (.fieldLink RX6 27 "HalfScales$Thing" "seenCut" "[I") (List.mem_cons_of_mem _ (hs_inG 1 49 rfl rfl))
  have fl24 := hts (.fieldLink RX6 24 "HalfScales$Thing" "seenBy" "[I") (List.mem_cons_of_mem _ (hs_inG 1 48 rfl rfl))
  have fl30 := hts (.fieldLink RX6 30 "HalfScales$Thing" "seenFound" "[I") (List.mem_cons_of_mem _ (hs_inG 1 50 rfl rfl))
  obtain ⟨I0, I1, ⟨I2, I2b⟩, I3, I4⟩ := hN0
  subst hsz
  have hD := hD0.self (sz := s.heap.size)
  generalize hAe : va_A [oqT t t_a t_N t_J, oqF0 k t_a t_F, oqF1 k t_a t_F, oqF2 k t_a t_F, oqF3 k t_a t_F, oqF4 k t_a t_F, oqF5 k t_a t_F, oqF6 k t_a t_F] s.heap.size = A at hD ⊢
  have hA : ∀ q : Nat, s.heap.size ≤ q → A q := fun q h => by rw [← hAe]; exact Or.inr h
  have hS : va_S A s.heap s.heap [] := va_S.rf
  have hl := lv_entry ([.ref t]) (n := 2) (Nat.le_of_ble_eq_true rfl)
  rw [lg_entry_eq]
  generalize (lg_sl ([.ref t]) ++ List.replicate (2 - (lg_sl ([.ref t])).length) Slot.unset).toArray = ls at hl ⊢
  have hl : lv_has ls 2 [(0, .ref t)] := hl
  have hP : va_P D vwCl [oqT t t_a t_N t_J, oqF0 k t_a t_F, oqF1 k t_a t_F, oqF2 k t_a t_F, oqF3 k t_a t_F, oqF4 k t_a t_F, oqF5 k t_a t_F, oqF6 k t_a t_F] s.heap := hP
  refine lv_iconst (v := 0) hx hb dX6_isAsSeen_0 hki_0 ?_
  refine lv_istore_n (lv' := [(1, .int 0), (0, .ref t)]) hx hb dX6_isAsSeen_1 rfl hl (Nat.le_of_ble_eq_true rfl) rfl (fun ls hl => ?_)
  refine hs_while (σ := Nat) (fun x => x ≤ t_N 4 ∧ A_asC t_N t_J t_F x = true) (fun x => t_N 4 - x) (fun x => [oqT t t_a t_N t_J, oqF0 k t_a t_F, oqF1 k t_a t_F, oqF2 k t_a t_F, oqF3 k t_a t_F, oqF4 k t_a t_F, oqF5 k t_a t_F, oqF6 k t_a t_F]) (fun x => [(1, .int (nI (x))), (0, .ref t)]) ?_ (0) ?_ hP hD hS hl
  · intro x hI ih2 H locs ls hP hD hS hl
    obtain ⟨i, rfl⟩ : ∃ z, z = x := ⟨_, rfl⟩
    try dsimp only at hI
    have hP : va_P D vwCl [oqT t t_a t_N t_J, oqF0 k t_a t_F, oqF1 k t_a t_F, oqF2 k t_a t_F, oqF3 k t_a t_F, oqF4 k t_a t_F, oqF5 k t_a t_F, oqF6 k t_a t_F] H := hP
    have hD : va_D A [oqT t t_a t_N t_J, oqF0 k t_a t_F, oqF1 k t_a t_F, oqF2 k t_a t_F, oqF3 k t_a t_F, oqF4 k t_a t_F, oqF5 k t_a t_F, oqF6 k t_a t_F] := hD
    have hl : lv_has ls 2 [(1, .int (nI i)), (0, .ref t)] := hl
    refine lv_iload_n hx hb dX6_isAsSeen_2 rfl (lv_at hl 0 rfl) ?_
    refine lv_aload_n hx hb dX6_isAsSeen_3 rfl (lv_at hl 1 rfl) ?_
    refine va_get (D := D) (ci := 5) (v := .int (nI (t_N 4))) (C := RX6) (T := TX6) (N := 15) hx hb hts hiX6 hown hK hP 0 rfl rfl 14 (Nat.le_of_ble_eq_true rfl) fl58 (fun _ h9 => h9) rfl dX6_isAsSeen_4 ?_
    refine lv_icmp_ge (tgt := 56) hx hb dX6_isAsSeen_7 rfl (fun c_1 => ?_) (fun c_1 => ?_)
    · have nc_1 : (t_N 4) ≤ i := (nI_leI (a := (t_N 4)) (b := i) (by omega) (by omega)).mp c_1
      refine lv_iconst (v := 1) hx hb dX6_isAsSeen_56 hki_1 ?_
      exact hs_zret hx hb hr hlocks hK hP hD hS () [0, 1, 2, 3, 4, 5, 6, 7] rfl (hs_upnd rfl) dX6_isAsSeen_57 rfl ((by rw [← show i = t_N 4 by omega, hI.2]; rfl))
    · have nc_1 : ¬ (t_N 4) ≤ i := fun hq9 => c_1 ((nI_leI (a := (t_N 4)) (b := i) (by omega) (by omega)).mpr hq9)
      refine lv_aload_n hx hb dX6_isAsSeen_10 rfl (lv_at hl 1 rfl) ?_
      refine lv_aload_n hx hb dX6_isAsSeen_11 rfl (lv_at hl 1 rfl) ?_
      refine va_get (D := D) (ci := 5) (v := .ref (t_a 5)) (C := RX6) (T := TX6) (N := 15) hx hb hts hiX6 hown hK hP 0 rfl rfl 5 (Nat.le_of_ble_eq_true rfl) fl27 (fun _ h9 => h9) rfl dX6_isAsSeen_12 ?_
      refine lv_iload_n hx hb dX6_isAsSeen_15 rfl (lv_at hl 0 rfl) ?_
      refine va_iald hx hb hK hP 6 0 rfl rfl (vp_in_nI (show i < 6 by omega) (by decide)) dX6_isAsSeen_16 ?_
      refine hs_topi (t_F 5 i) (by rw [nI_clamp (by omega)]) ?_
      refine hs_ciM (va_runV (As := [.int (t_F 5 i)]) (rest := []) ⟨hx, hb, hml, hown, hts⟩ (g_isCut l D k _ t t_a t_N t_J (t_F 5 i) (by first | assumption | exact ⟨by first | omega | (dsimp; omega), by first | omega | (dsimp; omega), ⟨by first | omega | (dsimp; omega), by first | omega | (dsimp; omega)⟩, by first | omega | (dsimp; omega), by first | omega | (dsimp; omega)⟩)) (cwV 1 hts gX6_isAsSeen_X6_isCut rfl rfl rfl ⟨rfl, hq_X6_isCut⟩ ⟨Nat.le_of_ble_eq_true rfl, Nat.le_of_ble_eq_true rfl⟩) (hs_preV hK hN (hs_subP (w := [_]) hP [0] rfl) (hD.sub (ws' := [_]) [0] (hs_upnd rfl) rfl) (ci := 5) (q0 := 0) rfl rfl) rfl rfl hl.1 rfl (lv_room (Nat.le_of_ble_eq_true rfl)) dX6_isAsSeen_17 ⟨Nat.le_of_ble_eq_true rfl, Nat.le_of_ble_eq_true rfl⟩) hP hD hS hA [false, true, true, true, true, true, true, true] [_, _, _, _, _, _, _] [_] rfl [0] rfl [0] (fun u_4 => [_]) (fun _ => rfl) (hs_upnd rfl) [false, true, true, true, true, true, true, true] (fun u_4 => [_, _, _, _, _, _, _, _]) (fun _ => rfl) (fun r_2 u_4 H locs hw_3 hP hD hS => ?_)
      refine hs_topi (hsb (hslt1 (t_F 5 i) (t_N 0))) hw_3 ?_
      refine lv_if_eq (tgt := 48) hx hb dX6_isAsSeen_20 rfl (fun c_5 => ?_) (fun c_5 => ?_)
      · refine lv_iconst (v := 0) hx hb dX6_isAsSeen_48 hki_0 ?_
        exact hs_zret hx hb hr hlocks hK hP hD hS () [0, 1, 2, 3, 4, 5, 6, 7] rfl (hs_upnd rfl) dX6_isAsSeen_49 rfl ((by rw [A_asC_no (q := i) (n := t_N 4) (by rw [A_asC, hI.2, hs_n0 c_5, Bool.false_and]; rfl) (by omega)]; rfl))
      · refine lv_aload_n hx hb dX6_isAsSeen_23 rfl (lv_at hl 1 rfl) ?_
        refine lv_aload_n hx hb dX6_isAsSeen_24 rfl (lv_at hl 1 rfl) ?_
        refine va_get (D := D) (ci := 5) (v := .ref (t_a 4)) (C := RX6) (T := TX6) (N := 15) hx hb hts hiX6 hown hK hP 0 rfl rfl 4 (Nat.le_of_ble_eq_true rfl) fl24 (fun _ h9 => h9) rfl dX6_isAsSeen_25 ?_
        refine lv_iload_n hx hb dX6_isAsSeen_28 rfl (lv_at hl 0 rfl) ?_
        refine va_iald hx hb hK hP 5 0 rfl rfl (vp_in_nI (show i < 6 by omega) (by decide)) dX6_isAsSeen_29 ?_
        obtain ⟨jj, hjj, ejj⟩ := vp_in_of (hF.2 (i) (by omega)) (by decide)
        refine hs_topi (nI jj) (by rw [nI_clamp (by omega)]; exact ejj) ?_
        refine lv_aload_n hx hb dX6_isAsSeen_30 rfl (lv_at hl 1 rfl) ?_
        refine va_get (D := D) (ci := 5) (v := .ref (t_a 5)) (C := RX6) (T := TX6) (N := 15) hx hb hts hiX6 hown hK hP 0 rfl rfl 5 (Nat.le_of_ble_eq_true rfl) fl27 (fun _ h9 => h9) rfl dX6_isAsSeen_31 ?_
        refine lv_iload_n hx hb dX6_isAsSeen_34 rfl (lv_at hl 0 rfl) ?_
        refine va_iald hx hb hK hP 6 0 rfl rfl (vp_in_nI (show i < 6 by omega) (by decide)) dX6_isAsSeen_35 ?_
        refine hs_topi (t_F 5 i) (by rw [nI_clamp (by omega)]) ?_
        refine hs_ciM (va_runV (As := [.int (nI jj), .int (t_F 5 i)]) (rest := []) ⟨hx, hb, hml, hown, hts⟩ (gf_verdict l D k _ t t_a t_N t_J t_F jj (t_F 5 i) (by first | assumption | exact ⟨by first | omega | (dsimp; omega), by first | omega | (dsimp; omega), ⟨by first | omega | (dsimp; omega), by first | omega | (dsimp; omega)⟩, by first | omega | (dsimp; omega), by first | omega | (dsimp; omega)⟩) (by omega)) (cwV 2 hts gX6_isAsSeen_X6_verdict rfl rfl rfl ⟨rfl, hq_X6_verdict⟩ ⟨Nat.le_of_ble_eq_true rfl, Nat.le_of_ble_eq_true rfl⟩) (hs_preV hK hN (hs_subP (w := [_, _, _, _, _, _, _, _]) hP [0, 1, 2, 3, 4, 5, 6, 7] rfl) (hD.sub (ws' := [_, _, _, _, _, _, _, _]) [0, 1, 2, 3, 4, 5, 6, 7] (hs_upnd rfl) rfl) (ci := 5) (q0 := 0) rfl rfl) rfl rfl hl.1 rfl (lv_room (Nat.le_of_ble_eq_true rfl)) dX6_isAsSeen_36 ⟨Nat.le_of_ble_eq_true rfl, Nat.le_of_ble_eq_true rfl⟩) hP hD hS hA [false, false, false, false, false, false, false, false] [] [_, _, _, _, _, _, _, _] rfl [0, 1, 2, 3, 4, 5, 6, 7] rfl [0, 1, 2, 3, 4, 5, 6, 7] (fun u_8 => [_, _, _, _, _, _, _, _]) (fun _ => rfl) (hs_upnd rfl) [false, false, false, false, false, false, false, false] (fun u_8 => [_, _, _, _, _, _, _, _]) (fun _ => rfl) (fun r_6 u_8 H locs hw_7 hP hD hS => ?_)
        refine hs_topi (A_vd (A_ld (A_fc t_F jj) (A_lf (t_F 5 i)) (t_N 0)) (t_J 0)) hw_7 ?_
        refine lv_aload_n hx hb dX6_isAsSeen_39 rfl (lv_at hl 1 rfl) ?_
        refine va_get (D := D) (ci := 5) (v := .ref (t_a 6)) (C := RX6) (T := TX6) (N := 15) hx hb hts hiX6 hown hK hP 0 rfl rfl 6 (Nat.le_of_ble_eq_true rfl) fl30 (fun _ h9 => h9) rfl dX6_isAsSeen_40 ?_
        refine lv_iload_n hx hb dX6_isAsSeen_43 rfl (lv_at hl 0 rfl) ?_
        refine va_iald hx hb hK hP 7 0 rfl rfl (vp_in_nI (show i < 6 by omega) (by decide)) dX6_isAsSeen_44 ?_
        refine hs_topi (t_F 6 i) (by rw [nI_clamp (by omega)]) ?_
        refine lv_icmp_eq (tgt := 50) hx hb dX6_isAsSeen_45 rfl (fun c_9 => ?_) (fun c_9 => ?_)
        · refine lv_iinc (v := nI (i + 1)) (lv' := [(1, .int (nI (i + 1))), (0, .ref t)]) hx hb dX6_isAsSeen_50 hl (k := 0) rfl (nI_add (i) 1) (Nat.le_of_ble_eq_true rfl) rfl (fun ls hl => ?_)
          refine lv_goto (tgt := 2) hx hb dX6_isAsSeen_53 rfl ?_
          exact ih2 (i + 1) (by (try dsimp only); exact ⟨by omega, by rw [A_asC, hI.2, hs_nb c_5, ejj, nI_clamp (by omega), decide_eq_true (show A_vd _ _ = _ from c_9)]; rfl⟩) (by (try dsimp only); omega) _ _ _ hP hD hS (lv_sub hl [0, 1] rfl)
        · refine lv_iconst (v := 0) hx hb dX6_isAsSeen_48 hki_0 ?_
          exact hs_zret hx hb hr hlocks hK hP hD hS () [0, 1, 2, 3, 4, 5, 6, 7] rfl (hs_upnd rfl) dX6_isAsSeen_49 rfl ((by rw [A_asC_no (q := i) (n := t_N 4) (by rw [A_asC, hI.2, hs_nb c_5, ejj, nI_clamp (by omega), decide_eq_false (show ¬ A_vd _ _ = _ from c_9)]; rfl) (by omega)]; rfl))
  · (try dsimp only); exact ⟨Nat.zero_le _, rfl⟩

set_option maxHeartbeats 4000000 in
set_option maxRecDepth 100000 in
theorem gr_isSo (l : Launch) (D : va_G) (k : Nat → ClassId) (sz : Nat) (mo : Nat) (mo_st : Nat) (mo_at : Nat) (mo_isKept : Nat) (mo_pe : Nat) (mo_hm : Nat) (mo_draft : Nat) (mo_dp : Nat) (mo_dh : Nat) (mo_toldLines : Int32) (mo_highest : Int32) (mo_tape : Nat) (mo_tl : Nat) (mo_ps : Nat) (mo_fr : Nat) (mo_sort : Int32) (mo_value : Int32) (mo_ft : Nat) (mo_wrongAt : Int32) (mo_row : Nat) (mo_orderMany : Int32) (mo_fo : Nat) (mo_lightest : Int32) (mo_heaviest : Int32) (mo_before : Nat) (mo_justSum : Int64) (mo_toldSum : Int64) (mo_allWays : Int64) (mo_lanes : Nat) (mo_sizes : Nat) (mo_cells : Nat) (mo_torn : Int32) (mo_had : Nat) (af : Nat → Int32) (c0 : Nat) (c4 : Nat) (e0 : af 0 = nI c0) (h0 : c0 ≤ 8) (e4 : af 25 = nI c4) (h4 : c4 ≤ 6) (hsaw : ∀ i, i < c4 → vp_in (af (26 + 3 * i)) 4) : MI l yX8_isSo wsX8_isSo ({ frames := 4, cells := 0, slots := 0, locals := 93 }) D k [.ref mo] [oq7 mo mo_st mo_at mo_isKept (nI mo_pe) (nI mo_hm) mo_draft (nI mo_dp) (nI mo_dh) mo_toldLines mo_highest mo_tape (nI mo_tl) (nI mo_ps) (nI mo_fr) mo_sort mo_value (nI mo_ft) mo_wrongAt mo_row mo_orderMany (nI mo_fo) mo_lightest mo_heaviest mo_before mo_justSum mo_toldSum mo_allWays mo_lanes mo_sizes mo_cells mo_torn mo_had, oqI k mo_at 44 (af)] sz (fun (r : Int32) (u : Unit) => r = hsb (A_asM c0 af c4)) (fun (u : Unit) => [oq7 mo mo_st mo_at mo_isKept (nI mo_pe) (nI mo_hm) mo_draft (nI mo_dp) (nI mo_dh) mo_toldLines mo_highest mo_tape (nI mo_tl) (nI mo_ps) (nI mo_fr) mo_sort mo_value (nI mo_ft) mo_wrongAt mo_row mo_orderMany (nI mo_fo) mo_lightest mo_heaviest mo_before mo_justSum mo_toldSum mo_allWays mo_lanes mo_sizes mo_cells mo_torn mo_had, oqI k mo_at 44 (af)]) := by
  refine Met.ofW (cc := cX8_isSo) (maxL := 4) (ret := (some .boolean)) hpn_X8 rfl ?_
  intro p e s m args below meth c s₁ B hml hv
  obtain ⟨rfl, hsz, hP, hK, hD0, hN⟩ := hv
  have hx := B.exec
  have hb := B.bytes
  have hr := B.returns
  have hlocks := B.notSynchronized
  have hts := atoms_spec (ws := wsX8_isSo) B.pre
  have hown := findClass_of_methodNamed B.named
  have hown : s.vm.findClass RX8 = some m.cls := hown
  have hiX8 : ∀ w ∈ u_ws RX8 TX8 32, w ∈ wsX8_isSo := fun w9 hw9 => List.mem_cons_of_mem _ (igX8 w9 hw9)
  have fl13 := hts (.fieldLink RX8 13 "HalfScalesModel" "at" "[I") (List.mem_cons_of_mem _ (hs_inG 4 81 rfl rfl))
  subst hsz
  have hD := hD0.self (sz := s.heap.size)
  generalize hAe : va_A [oq7 mo mo_st mo_at mo_isKept (nI mo_pe) (nI mo_hm) mo_draft (nI mo_dp) (nI mo_dh) mo_toldLines mo_highest mo_tape (nI mo_tl) (nI mo_ps) (nI mo_fr) mo_sort mo_value (nI mo_ft) mo_wrongAt mo_row mo_orderMany (nI mo_fo) mo_lightest mo_heaviest mo_before mo_justSum mo_toldSum mo_allWays mo_lanes mo_sizes mo_cells mo_torn mo_had, oqI k mo_at 44 (af)] s.heap.size = A at hD ⊢
  have hA : ∀ q : Nat, s.heap.size ≤ q → A q := fun q h => by rw [← hAe]; exact Or.inr h
  have hS : va_S A s.heap s.heap [] := va_S.rf
  have hl := lv_entry ([.ref mo]) (n := 4) (Nat.le_of_ble_eq_true rfl)
  rw [lg_entry_eq]
  generalize (lg_sl ([.ref mo]) ++ List.replicate (4 - (lg_sl ([.ref mo])).length) Slot.unset).toArray = ls at hl ⊢
  have hl : lv_has ls 4 [(0, .ref mo)] := hl
  have hP : va_P D vwCl [oq7 mo mo_st mo_at mo_isKept (nI mo_pe) (nI mo_hm) mo_draft (nI mo_dp) (nI mo_dh) mo_toldLines mo_highest mo_tape (nI mo_tl) (nI mo_ps) (nI mo_fr) mo_sort mo_value (nI mo_ft) mo_wrongAt mo_row mo_orderMany (nI mo_fo) mo_lightest mo_heaviest mo_before mo_justSum mo_toldSum mo_allWays mo_lanes mo_sizes mo_cells mo_torn mo_had, oqI k mo_at 44 (af)] s.heap := hP
  refine lv_iconst (v := 1) hx hb dX8_isSo_0 hki_1 ?_
  refine lv_istore_n (lv' := [(1, .int 1), (0, .ref mo)]) hx hb dX8_isSo_1 rfl hl (Nat.le_of_ble_eq_true rfl) rfl (fun ls hl => ?_)
  refine lv_iconst (v := 0) hx hb dX8_isSo_2 hki_0 ?_
  refine lv_istore_n (lv' := [(2, .int 0), (1, .int 1), (0, .ref mo)]) hx hb dX8_isSo_3 rfl hl (Nat.le_of_ble_eq_true rfl) rfl (fun ls hl => ?_)
  refine hs_while (σ := Int32 × Nat) (fun x => x.2 ≤ c4 ∧ x.1 = hsb (A_asM c0 af x.2)) (fun x => c4 - x.2) (fun x => [oq7 mo mo_st mo_at mo_isKept (nI mo_pe) (nI mo_hm) mo_draft (nI mo_dp) (nI mo_dh) mo_toldLines mo_highest mo_tape (nI mo_tl) (nI mo_ps) (nI mo_fr) mo_sort mo_value (nI mo_ft) mo_wrongAt mo_row mo_orderMany (nI mo_fo) mo_lightest mo_heaviest mo_before mo_justSum mo_toldSum mo_allWays mo_lanes mo_sizes mo_cells mo_torn mo_had, oqI k mo_at 44 (af)]) (fun x => [(2, .int (nI (x.2))), (1, .int (x.1)), (0, .ref mo)]) ?_ (1, 0) ?_ hP hD hS hl
  · intro x hI ih4 H locs ls hP hD hS hl
    obtain ⟨iz, i⟩ := x
    try dsimp only at hI
    have hP : va_P D vwCl [oq7 mo mo_st mo_at mo_isKept (nI mo_pe) (nI mo_hm) mo_draft (nI mo_dp) (nI mo_dh) mo_toldLines mo_highest mo_tape (nI mo_tl) (nI mo_ps) (nI mo_fr) mo_sort mo_value (nI mo_ft) mo_wrongAt mo_row mo_orderMany (nI mo_fo) mo_lightest mo_heaviest mo_before mo_justSum mo_toldSum mo_allWays mo_lanes mo_sizes mo_cells mo_torn mo_had, oqI k mo_at 44 (af)] H := hP
    have hD : va_D A [oq7 mo mo_st mo_at mo_isKept (nI mo_pe) (nI mo_hm) mo_draft (nI mo_dp) (nI mo_dh) mo_toldLines mo_highest mo_tape (nI mo_tl) (nI mo_ps) (nI mo_fr) mo_sort mo_value (nI mo_ft) mo_wrongAt mo_row mo_orderMany (nI mo_fo) mo_lightest mo_heaviest mo_before mo_justSum mo_toldSum mo_allWays mo_lanes mo_sizes mo_cells mo_torn mo_had, oqI k mo_at 44 (af)] := hD
    have hl : lv_has ls 4 [(2, .int (nI i)), (1, .int iz), (0, .ref mo)] := hl
    refine lv_iload_n hx hb dX8_isSo_4 rfl (lv_at hl 0 rfl) ?_
    refine lv_aload_n hx hb dX8_isSo_5 rfl (lv_at hl 2 rfl) ?_
    refine va_get (D := D) (ci := 7) (v := .ref mo_at) (C := RX8) (T := TX8) (N := 32) hx hb hts hiX8 hown hK hP 0 rfl rfl 1 (Nat.le_of_ble_eq_true rfl) fl13 (fun _ h9 => h9) rfl dX8_isSo_6 ?_
    refine lv_bipush (v := 25) hx hb dX8_isSo_9 hkb_25 ?_
    refine va_iald hx hb hK hP 1 0 rfl rfl (hs_in (by decide)) dX8_isSo_11 ?_
    refine hs_topi (nI c4) e4 ?_
    refine lv_icmp_ge (tgt := 84) hx hb dX8_isSo_12 rfl (fun c_1 => ?_) (fun c_1 => ?_)
    · have nc_1 : c4 ≤ i := (nI_leI (a := c4) (b := i) (by omega) (by omega)).mp c_1
      refine lv_iload_n hx hb dX8_isSo_84 rfl (lv_at hl 1 rfl) ?_
      exact hs_zret hx hb hr hlocks hK hP hD hS () [0, 1] rfl (hs_upnd rfl) dX8_isSo_85 (by rw [hI.2]; exact hsb_n _) ((by rw [hI.2, show i = c4 by omega]))
    · have nc_1 : ¬ c4 ≤ i := fun hq9 => c_1 ((nI_leI (a := c4) (b := i) (by omega) (by omega)).mpr hq9)
      refine lv_bipush (v := 26) hx hb dX8_isSo_15 hkb_26 ?_
      refine lv_iconst (v := 3) hx hb dX8_isSo_17 hki_3 ?_
      refine lv_iload_n hx hb dX8_isSo_18 rfl (lv_at hl 0 rfl) ?_
      refine lv_imul hx hb dX8_isSo_19 ?_
      refine hs_topi (nI (3 * i)) (pk_mul (3) (i)) ?_
      refine lv_iadd hx hb dX8_isSo_20 ?_
      refine hs_topi (nI (26 + (3 * i))) (nI_add (26) ((3 * i))) ?_
      refine lv_istore_n (lv' := [(3, .int (nI (26 + (3 * i)))), (2, .int (nI i)), (1, .int iz), (0, .ref mo)]) hx hb dX8_isSo_21 rfl hl (Nat.le_of_ble_eq_true rfl) rfl (fun ls hl => ?_)
      refine lv_iload_n hx hb dX8_isSo_22 rfl (lv_at hl 2 rfl) ?_
      refine lv_if_eq (tgt := 76) hx hb dX8_isSo_23 rfl (fun c_2 => ?_) (fun c_2 => ?_)
      · refine lv_iconst (v := 0) hx hb dX8_isSo_76 hki_0 ?_
        refine lv_istore_n (lv' := [(1, .int 0), (3, .int (nI (26 + (3 * i)))), (2, .int (nI i)), (0, .ref mo)]) hx hb dX8_isSo_77 rfl hl (Nat.le_of_ble_eq_true rfl) rfl (fun ls hl => ?_)
        refine lv_iinc (v := nI (i + 1)) (lv' := [(2, .int (nI (i + 1))), (1, .int 0), (3, .int (nI (26 + (3 * i)))), (0, .ref mo)]) hx hb dX8_isSo_78 hl (k := 2) rfl (nI_add (i) 1) (Nat.le_of_ble_eq_true rfl) rfl (fun ls hl => ?_)
        refine lv_goto (tgt := 4) hx hb dX8_isSo_81 rfl ?_
        exact ih4 (0, i + 1) (by (try dsimp only); exact ⟨by omega, by rw [A_asM, hs_n0 (hI.2.symm.trans c_2), Bool.false_and]; rfl⟩) (by (try dsimp only); omega) _ _ _ hP hD hS (lv_sub hl [0, 1, 3] rfl)
      · refine lv_aload_n hx hb dX8_isSo_26 rfl (lv_at hl 3 rfl) ?_
        refine va_get (D := D) (ci := 7) (v := .ref mo_at) (C := RX8) (T := TX8) (N := 32) hx hb hts hiX8 hown hK hP 0 rfl rfl 1 (Nat.le_of_ble_eq_true rfl) fl13 (fun _ h9 => h9) rfl dX8_isSo_27 ?_
        refine lv_iload_n hx hb dX8_isSo_30 rfl (lv_at hl 0 rfl) ?_
        refine lv_iconst (v := 1) hx hb dX8_isSo_31 hki_1 ?_
        refine lv_iadd hx hb dX8_isSo_32 ?_
        refine hs_topi (nI ((26 + (3 * i)) + 1)) (nI_add ((26 + (3 * i))) (1)) ?_
        refine va_iald hx hb hK hP 1 0 rfl rfl (vp_in_nI (show ((26 + (3 * i)) + 1) < 44 by omega) (by decide)) dX8_isSo_33 ?_
        refine hs_topi (af (26 + 3 * i + 1)) (by rw [nI_clamp (by omega)]) ?_
        refine lv_aload_n hx hb dX8_isSo_34 rfl (lv_at hl 3 rfl) ?_
        refine va_get (D := D) (ci := 7) (v := .ref mo_at) (C := RX8) (T := TX8) (N := 32) hx hb hts hiX8 hown hK hP 0 rfl rfl 1 (Nat.le_of_ble_eq_true rfl) fl13 (fun _ h9 => h9) rfl dX8_isSo_35 ?_
        refine lv_iconst (v := 0) hx hb dX8_isSo_38 hki_0 ?_
        refine va_iald hx hb hK hP 1 0 rfl rfl (hs_in (by decide)) dX8_isSo_39 ?_
        refine hs_topi (nI c0) e0 ?_
        refine lv_icmp_ge (tgt := 76) hx hb dX8_isSo_40 rfl (fun c_3 => ?_) (fun c_3 => ?_)
        · refine lv_iconst (v := 0) hx hb dX8_isSo_76 hki_0 ?_
          refine lv_istore_n (lv' := [(1, .int 0), (3, .int (nI (26 + (3 * i)))), (2, .int (nI i)), (0, .ref mo)]) hx hb dX8_isSo_77 rfl hl (Nat.le_of_ble_eq_true rfl) rfl (fun ls hl => ?_)
          refine lv_iinc (v := nI (i + 1)) (lv' := [(2, .int (nI (i + 1))), (1, .int 0), (3, .int (nI (26 + (3 * i)))), (0, .ref mo)]) hx hb dX8_isSo_78 hl (k := 2) rfl (nI_add (i) 1) (Nat.le_of_ble_eq_true rfl) rfl (fun ls hl => ?_)
          refine lv_goto (tgt := 4) hx hb dX8_isSo_81 rfl ?_
          exact ih4 (0, i + 1) (by (try dsimp only); exact ⟨by omega, by rw [A_asM, hs_nb (fun t9 => c_2 (hI.2.trans t9)), Bool.true_and, decide_eq_false (Int32.not_lt.mpr c_3), Bool.false_and]; rfl⟩) (by (try dsimp only); omega) _ _ _ hP hD hS (lv_sub hl [0, 1, 3] rfl)
        · refine lv_aload_n hx hb dX8_isSo_43 rfl (lv_at hl 3 rfl) ?_
          refine lv_aload_n hx hb dX8_isSo_44 rfl (lv_at hl 3 rfl) ?_
          refine va_get (D := D) (ci := 7) (v := .ref mo_at) (C := RX8) (T := TX8) (N := 32) hx hb hts hiX8 hown hK hP 0 rfl rfl 1 (Nat.le_of_ble_eq_true rfl) fl13 (fun _ h9 => h9) rfl dX8_isSo_45 ?_
          refine lv_iload_n hx hb dX8_isSo_48 rfl (lv_at hl 0 rfl) ?_
          refine va_iald hx hb hK hP 1 0 rfl rfl (vp_in_nI (show (26 + (3 * i)) < 44 by omega) (by decide)) dX8_isSo_49 ?_
          obtain ⟨jj, hjj, ejj⟩ := vp_in_of (hsaw i (by omega)) (by decide)
          refine hs_topi (nI jj) (by rw [nI_clamp (by omega)]; exact ejj) ?_
          refine lv_aload_n hx hb dX8_isSo_50 rfl (lv_at hl 3 rfl) ?_
          refine va_get (D := D) (ci := 7) (v := .ref mo_at) (C := RX8) (T := TX8) (N := 32) hx hb hts hiX8 hown hK hP 0 rfl rfl 1 (Nat.le_of_ble_eq_true rfl) fl13 (fun _ h9 => h9) rfl dX8_isSo_51 ?_
          refine lv_iload_n hx hb dX8_isSo_54 rfl (lv_at hl 0 rfl) ?_
          refine lv_iconst (v := 1) hx hb dX8_isSo_55 hki_1 ?_
          refine lv_iadd hx hb dX8_isSo_56 ?_
          refine hs_topi (nI ((26 + (3 * i)) + 1)) (nI_add ((26 + (3 * i))) (1)) ?_
          refine va_iald hx hb hK hP 1 0 rfl rfl (vp_in_nI (show ((26 + (3 * i)) + 1) < 44 by omega) (by decide)) dX8_isSo_57 ?_
          refine hs_topi (af (26 + 3 * i + 1)) (by rw [nI_clamp (by omega)]) ?_
          refine hs_ciM (va_runV (As := [.int (nI jj), .int (af (26 + 3 * i + 1))]) (rest := []) ⟨hx, hb, hml, hown, hts⟩ (gr_findOf l D k _ mo mo_st mo_at mo_isKept mo_pe mo_hm mo_draft mo_dp mo_dh mo_toldLines mo_highest mo_tape mo_tl mo_ps mo_fr mo_sort mo_value mo_ft mo_wrongAt mo_row mo_orderMany mo_fo mo_lightest mo_heaviest mo_before mo_justSum mo_toldSum mo_allWays mo_lanes mo_sizes mo_cells mo_torn mo_had af c0 jj (af (26 + 3 * i + 1)) (by first | exact e0a | exact e0) (by omega) (by omega)) (cwV 2 hts gX8_isSo_X8_findOf rfl rfl rfl ⟨rfl, hq_X8_findOf⟩ ⟨Nat.le_of_ble_eq_true rfl, Nat.le_of_ble_eq_true rfl⟩) (hs_preV hK hN (hs_subP (w := [_, _]) hP [0, 1] rfl) (hD.sub (ws' := [_, _]) [0, 1] (hs_upnd rfl) rfl) (ci := 7) (q0 := 0) rfl rfl) rfl rfl hl.1 rfl (lv_room (Nat.le_of_ble_eq_true rfl)) dX8_isSo_58 ⟨Nat.le_of_ble_eq_true rfl, Nat.le_of_ble_eq_true rfl⟩) hP hD hS hA [false, false] [] [_, _] rfl [0, 1] rfl [0, 1] (fun u_6 => [_, _]) (fun _ => rfl) (hs_upnd rfl) [false, false] (fun u_6 => [_, _]) (fun _ => rfl) (fun r_4 u_6 H locs hw_5 hP hD hS => ?_)
          refine hs_topi (A_vm (A_ml (A_fm af jj) (A_lf (af (26 + 3 * i + 1))) c0) (af 13)) hw_5 ?_
          refine lv_aload_n hx hb dX8_isSo_61 rfl (lv_at hl 3 rfl) ?_
          refine va_get (D := D) (ci := 7) (v := .ref mo_at) (C := RX8) (T := TX8) (N := 32) hx hb hts hiX8 hown hK hP 0 rfl rfl 1 (Nat.le_of_ble_eq_true rfl) fl13 (fun _ h9 => h9) rfl dX8_isSo_62 ?_
          refine lv_iload_n hx hb dX8_isSo_65 rfl (lv_at hl 0 rfl) ?_
          refine lv_iconst (v := 2) hx hb dX8_isSo_66 hki_2 ?_
          refine lv_iadd hx hb dX8_isSo_67 ?_
          refine hs_topi (nI ((26 + (3 * i)) + 2)) (nI_add ((26 + (3 * i))) (2)) ?_
          refine va_iald hx hb hK hP 1 0 rfl rfl (vp_in_nI (show ((26 + (3 * i)) + 2) < 44 by omega) (by decide)) dX8_isSo_68 ?_
          refine hs_topi (af (26 + 3 * i + 2)) (by rw [nI_clamp (by omega)]) ?_
          refine lv_icmp_ne (tgt := 76) hx hb dX8_isSo_69 rfl (fun c_7 => ?_) (fun c_7 => ?_)
          · refine lv_iconst (v := 0) hx hb dX8_isSo_76 hki_0 ?_
            refine lv_istore_n (lv' := [(1, .int 0), (3, .int (nI (26 + (3 * i)))), (2, .int (nI i)), (0, .ref mo)]) hx hb dX8_isSo_77 rfl hl (Nat.le_of_ble_eq_true rfl) rfl (fun ls hl => ?_)
            refine lv_iinc (v := nI (i + 1)) (lv' := [(2, .int (nI (i + 1))), (1, .int 0), (3, .int (nI (26 + (3 * i)))), (0, .ref mo)]) hx hb dX8_isSo_78 hl (k := 2) rfl (nI_add (i) 1) (Nat.le_of_ble_eq_true rfl) rfl (fun ls hl => ?_)
            refine lv_goto (tgt := 4) hx hb dX8_isSo_81 rfl ?_
            exact ih4 (0, i + 1) (by (try dsimp only); exact ⟨by omega, by rw [A_asM, hs_nb (fun t9 => c_2 (hI.2.trans t9)), Bool.true_and, decide_eq_true (Int32.not_le.mp c_3), Bool.true_and, ejj, nI_clamp (by omega), decide_eq_false (show ¬ A_vm _ _ = _ from c_7)]; rfl⟩) (by (try dsimp only); omega) _ _ _ hP hD hS (lv_sub hl [0, 1, 3] rfl)
          · refine lv_iconst (v := 1) hx hb dX8_isSo_72 hki_1 ?_
            refine lv_goto (tgt := 77) hx hb dX8_isSo_73 rfl ?_
            refine lv_istore_n (lv' := [(1, .int 1), (3, .int (nI (26 + (3 * i)))), (2, .int (nI i)), (0, .ref mo)]) hx hb dX8_isSo_77 rfl hl (Nat.le_of_ble_eq_true rfl) rfl (fun ls hl => ?_)
            refine lv_iinc (v := nI (i + 1)) (lv' := [(2, .int (nI (i + 1))), (1, .int 1), (3, .int (nI (26 + (3 * i)))), (0, .ref mo)]) hx hb dX8_isSo_78 hl (k := 2) rfl (nI_add (i) 1) (Nat.le_of_ble_eq_true rfl) rfl (fun ls hl => ?_)
            refine lv_goto (tgt := 4) hx hb dX8_isSo_81 rfl ?_
            exact ih4 (1, i + 1) (by (try dsimp only); exact ⟨by omega, by rw [A_asM, hs_nb (fun t9 => c_2 (hI.2.trans t9)), Bool.true_and, decide_eq_true (Int32.not_le.mp c_3), Bool.true_and, ejj, nI_clamp (by omega), decide_eq_true (show A_vm _ _ = _ from c_7)]; rfl⟩) (by (try dsimp only); omega) _ _ _ hP hD hS (lv_sub hl [0, 1, 3] rfl)
  · (try dsimp only); exact ⟨Nat.zero_le _, rfl⟩
