def mKe (kf s : Nat → Int32) (i r : Int32) (u : (Nat → Int32) × (Nat → Int32)) : Prop := (hsin i 0 1 = false ∧ r = -1 ∧ u = (s, kf)) ∨ ∃ k : Nat, k < 2 ∧ i = nI k ∧ r = (if kf k = 0 then 0 else 1) ∧ u.2 = upd kf k 1 ∧ (∀ q, q < 44 → u.1 (44 * (k + 1) + q) = s q) ∧ ∀ q, ¬ (44 * (k + 1) ≤ q ∧ q < 44 * (k + 1) + 44) → u.1 q = s q
def mBa (kf s : Nat → Int32) (i r : Int32) (u : Nat → Int32) : Prop := (hsin i 0 1 = false ∧ r = -1 ∧ u = s) ∨ ∃ k : Nat, k < 2 ∧ i = nI k ∧ ((kf k = 0 ∧ r = -2 ∧ u = s) ∨ (¬ kf k = 0 ∧ r = u 0 ∧ (∀ q, q < 44 → u q = s (44 * (k + 1) + q)) ∧ ∀ q, 44 ≤ q → u q = s q))
theorem hs_layy {i : Int32} (h : ¬ hsb (hsin i 0 3 && hsin 0 0 2) = 0) : hsin i 0 3 = true := hs_and1 (hs_nb h)

set_option maxHeartbeats 4000000 in
set_option maxRecDepth 100000 in
theorem gr_becomes (l : Launch) (D : va_G) (k : Nat → ClassId) (sz : Nat) (mo : Nat) (mo_st : Nat) (mo_at : Nat) (mo_isKept : Nat) (mo_pe : Nat) (mo_hm : Nat) (mo_draft : Nat) (mo_dp : Nat) (mo_dh : Nat) (mo_toldLines : Int32) (mo_highest : Int32) (mo_tape : Nat) (mo_tl : Nat) (mo_ps : Nat) (mo_fr : Nat) (mo_sort : Int32) (mo_value : Int32) (mo_ft : Nat) (mo_wrongAt : Int32) (mo_row : Nat) (mo_orderMany : Int32) (mo_fo : Nat) (mo_lightest : Int32) (mo_heaviest : Int32) (mo_before : Nat) (mo_justSum : Int64) (mo_toldSum : Int64) (mo_allWays : Int64) (mo_lanes : Nat) (mo_sizes : Nat) (mo_cells : Nat) (mo_torn : Int32) (mo_had : Nat) (sf : Nat → Int32) (n : Nat) (v : Int32) (hn : n < 132) : MI l yX8_becomes wsX8_becomes ({ frames := 0, cells := 0, slots := 0, locals := 0 }) D k [.ref mo, .int (nI n), .int v] [oq7 mo mo_st mo_at mo_isKept (nI mo_pe) (nI mo_hm) mo_draft (nI mo_dp) (nI mo_dh) mo_toldLines mo_highest mo_tape (nI mo_tl) (nI mo_ps) (nI mo_fr) mo_sort mo_value (nI mo_ft) mo_wrongAt mo_row mo_orderMany (nI mo_fo) mo_lightest mo_heaviest mo_before mo_justSum mo_toldSum mo_allWays mo_lanes mo_sizes mo_cells mo_torn mo_had, oqI k mo_st 132 (sf)] sz (fun (r : Int32) (u : Unit) => r = sf n) (fun (u : Unit) => [oq7 mo mo_st mo_at mo_isKept (nI mo_pe) (nI mo_hm) mo_draft (nI mo_dp) (nI mo_dh) mo_toldLines mo_highest mo_tape (nI mo_tl) (nI mo_ps) (nI mo_fr) mo_sort mo_value (nI mo_ft) mo_wrongAt mo_row mo_orderMany (nI mo_fo) mo_lightest mo_heaviest mo_before mo_justSum mo_toldSum mo_allWays mo_lanes mo_sizes mo_cells mo_torn mo_had, oqI k mo_st 132 (upd sf n v)]) := by
  refine Met.ofW (cc := cX8_becomes) (maxL := 4) (ret := (some .int)) hpn_X8 rfl ?_
  intro p e s m args below meth c s₁ B hml hv
  obtain ⟨rfl, hsz, hP, hK, hD0, hN⟩ := hv
  have hx := B.exec
  have hb := B.bytes
  have hr := B.returns
  have hlocks := B.notSynchronized
  have hts := atoms_spec (ws := wsX8_becomes) B.pre
  have hown := findClass_of_methodNamed B.named
  have hown : s.vm.findClass RX8 = some m.cls := hown
  have hiX8 : ∀ w ∈ u_ws RX8 TX8 32, w ∈ wsX8_becomes := fun w9 hw9 => List.mem_cons_of_mem _ (igX8 w9 hw9)
  have fl7 := hts (.fieldLink RX8 7 "HalfScalesModel" "st" "[I") (List.mem_cons_of_mem _ (hs_inG 4 80 rfl rfl))
  subst hsz
  have hD := hD0.self (sz := s.heap.size)
  generalize hAe : va_A [oq7 mo mo_st mo_at mo_isKept (nI mo_pe) (nI mo_hm) mo_draft (nI mo_dp) (nI mo_dh) mo_toldLines mo_highest mo_tape (nI mo_tl) (nI mo_ps) (nI mo_fr) mo_sort mo_value (nI mo_ft) mo_wrongAt mo_row mo_orderMany (nI mo_fo) mo_lightest mo_heaviest mo_before mo_justSum mo_toldSum mo_allWays mo_lanes mo_sizes mo_cells mo_torn mo_had, oqI k mo_st 132 (sf)] s.heap.size = A at hD ⊢
  have hA : ∀ q : Nat, s.heap.size ≤ q → A q := fun q h => by rw [← hAe]; exact Or.inr h
  have hS : va_S A s.heap s.heap [] := va_S.rf
  have hl := lv_entry ([.ref mo, .int (nI n), .int v]) (n := 4) (Nat.le_of_ble_eq_true rfl)
  rw [lg_entry_eq]
  generalize (lg_sl ([.ref mo, .int (nI n), .int v]) ++ List.replicate (4 - (lg_sl ([.ref mo, .int (nI n), .int v])).length) Slot.unset).toArray = ls at hl ⊢
  have hl : lv_has ls 4 [(0, .ref mo), (1, .int (nI n)), (2, .int v)] := hl
  have hP : va_P D vwCl [oq7 mo mo_st mo_at mo_isKept (nI mo_pe) (nI mo_hm) mo_draft (nI mo_dp) (nI mo_dh) mo_toldLines mo_highest mo_tape (nI mo_tl) (nI mo_ps) (nI mo_fr) mo_sort mo_value (nI mo_ft) mo_wrongAt mo_row mo_orderMany (nI mo_fo) mo_lightest mo_heaviest mo_before mo_justSum mo_toldSum mo_allWays mo_lanes mo_sizes mo_cells mo_torn mo_had, oqI k mo_st 132 (sf)] s.heap := hP
  refine lv_aload_n hx hb dX8_becomes_0 rfl (lv_at hl 0 rfl) ?_
  refine va_get (D := D) (ci := 7) (v := .ref mo_st) (C := RX8) (T := TX8) (N := 32) hx hb hts hiX8 hown hK hP 0 rfl rfl 0 (Nat.le_of_ble_eq_true rfl) fl7 (fun _ h9 => h9) rfl dX8_becomes_1 ?_
  refine lv_iload_n hx hb dX8_becomes_4 rfl (lv_at hl 1 rfl) ?_
  refine va_iald hx hb hK hP 1 0 rfl rfl (vp_in_nI (show n < 132 by omega) (by decide)) dX8_becomes_5 ?_
  refine lv_istore_n (lv' := [(3, .int (sf (nI n).toNatClampNeg)), (0, .ref mo), (1, .int (nI n)), (2, .int v)]) hx hb dX8_becomes_6 rfl hl (Nat.le_of_ble_eq_true rfl) rfl (fun ls hl => ?_)
  refine lv_aload_n hx hb dX8_becomes_7 rfl (lv_at hl 1 rfl) ?_
  refine va_get (D := D) (ci := 7) (v := .ref mo_st) (C := RX8) (T := TX8) (N := 32) hx hb hts hiX8 hown hK hP 0 rfl rfl 0 (Nat.le_of_ble_eq_true rfl) fl7 (fun _ h9 => h9) rfl dX8_becomes_8 ?_
  refine lv_iload_n hx hb dX8_becomes_11 rfl (lv_at hl 2 rfl) ?_
  refine lv_iload_n hx hb dX8_becomes_12 rfl (lv_at hl 3 rfl) ?_
  refine va_iast hx hb hK hP hD hS 1 0 rfl rfl (vp_in_nI (show n < 132 by omega) (by decide)) dX8_becomes_13 (fun H locs hP hD hS => ?_)
  have hE : upd sf ((nI n).toNatClampNeg) v = upd sf n v := (by rw [nI_clamp (by omega)])
  have hP : va_P D vwCl [oq7 mo mo_st mo_at mo_isKept (nI mo_pe) (nI mo_hm) mo_draft (nI mo_dp) (nI mo_dh) mo_toldLines mo_highest mo_tape (nI mo_tl) (nI mo_ps) (nI mo_fr) mo_sort mo_value (nI mo_ft) mo_wrongAt mo_row mo_orderMany (nI mo_fo) mo_lightest mo_heaviest mo_before mo_justSum mo_toldSum mo_allWays mo_lanes mo_sizes mo_cells mo_torn mo_had, oqI k mo_st 132 (upd sf ((nI n).toNatClampNeg) v)] H := hP
  have hD : va_D A [oq7 mo mo_st mo_at mo_isKept (nI mo_pe) (nI mo_hm) mo_draft (nI mo_dp) (nI mo_dh) mo_toldLines mo_highest mo_tape (nI mo_tl) (nI mo_ps) (nI mo_fr) mo_sort mo_value (nI mo_ft) mo_wrongAt mo_row mo_orderMany (nI mo_fo) mo_lightest mo_heaviest mo_before mo_justSum mo_toldSum mo_allWays mo_lanes mo_sizes mo_cells mo_torn mo_had, oqI k mo_st 132 (upd sf ((nI n).toNatClampNeg) v)] := hD
  rw [hE] at hP hD
  refine lv_iload_n hx hb dX8_becomes_14 rfl (lv_at hl 0 rfl) ?_
  exact hs_iret hx hb hr hlocks hK hP hD hS () [0, 1] rfl (hs_upnd rfl) dX8_becomes_15 ((by rw [nI_clamp (by omega)]))

set_option maxHeartbeats 4000000 in
set_option maxRecDepth 100000 in
theorem gqf_weigh (l : Launch) (D : va_G) (k : Nat → ClassId) (sz : Nat) (mo : Nat) (mo_st : Nat) (mo_at : Nat) (mo_isKept : Nat) (mo_pe : Nat) (mo_hm : Nat) (mo_draft : Nat) (mo_dp : Nat) (mo_dh : Nat) (mo_toldLines : Int32) (mo_highest : Int32) (mo_tape : Nat) (mo_tl : Nat) (mo_ps : Nat) (mo_fr : Nat) (mo_sort : Int32) (mo_value : Int32) (mo_ft : Nat) (mo_wrongAt : Int32) (mo_row : Nat) (mo_orderMany : Int32) (mo_fo : Nat) (mo_lightest : Int32) (mo_heaviest : Int32) (mo_before : Nat) (mo_justSum : Int64) (mo_toldSum : Int64) (mo_allWays : Int64) (mo_lanes : Nat) (mo_sizes : Nat) (mo_cells : Nat) (mo_torn : Int32) (mo_had : Nat) (sf : Nat → Int32) (c0 : Nat) (c3 : Nat) (c4 : Nat) (fi : Nat) (i : Int32) (v : Int32) (e0 : sf 0 = nI c0) (h0 : c0 ≤ 8) (h02 : 2 ≤ c0) (e3 : sf 16 = nI c3) (h3 : c3 ≤ 8) (e4 : sf 25 = nI c4) (h4 : c4 ≤ 6) (hpe : mo_pe ≤ 4) (hm2 : 2 ≤ mo_hm) (hm5 : mo_hm ≤ 5) (ef : sf 14 = nI fi) (hfi : fi ≤ 99) (hsaw : ∀ i, i < c4 → vp_in (sf (26 + 3 * i)) 4) : MI l yX8_weigh wsX8_weigh ({ frames := 2, cells := 0, slots := 0, locals := 46 }) D k [.ref mo, .int i, .int v] [oq7 mo mo_st mo_at mo_isKept (nI mo_pe) (nI mo_hm) mo_draft (nI mo_dp) (nI mo_dh) mo_toldLines mo_highest mo_tape (nI mo_tl) (nI mo_ps) (nI mo_fr) mo_sort mo_value (nI mo_ft) mo_wrongAt mo_row mo_orderMany (nI mo_fo) mo_lightest mo_heaviest mo_before mo_justSum mo_toldSum mo_allWays mo_lanes mo_sizes mo_cells mo_torn mo_had, oqI k mo_st 132 (sf)] sz (fun (r : Int32) (u : Nat → Int32) => mWg c0 sf i v r u) (fun (u : Nat → Int32) => [oq7 mo mo_st mo_at mo_isKept (nI mo_pe) (nI mo_hm) mo_draft (nI mo_dp) (nI mo_dh) mo_toldLines mo_highest mo_tape (nI mo_tl) (nI mo_ps) (nI mo_fr) mo_sort mo_value (nI mo_ft) mo_wrongAt mo_row mo_orderMany (nI mo_fo) mo_lightest mo_heaviest mo_before mo_justSum mo_toldSum mo_allWays mo_lanes mo_sizes mo_cells mo_torn mo_had, oqI k mo_st 132 (u)]) := by
  refine Met.ofW (cc := cX8_weigh) (maxL := 3) (ret := (some .int)) hpn_X8 rfl ?_
  intro p e s m args below meth c s₁ B hml hv
  obtain ⟨rfl, hsz, hP, hK, hD0, hN⟩ := hv
  have hx := B.exec
  have hb := B.bytes
  have hr := B.returns
  have hlocks := B.notSynchronized
  have hts := atoms_spec (ws := wsX8_weigh) B.pre
  have hown := findClass_of_methodNamed B.named
  have hown : s.vm.findClass RX8 = some m.cls := hown
  have kl190 := hts (.constantLong RX8 190 (9)) (List.mem_cons_of_mem _ (hs_inG 5 64 rfl rfl))
  subst hsz
  have hD := hD0.self (sz := s.heap.size)
  generalize hAe : va_A [oq7 mo mo_st mo_at mo_isKept (nI mo_pe) (nI mo_hm) mo_draft (nI mo_dp) (nI mo_dh) mo_toldLines mo_highest mo_tape (nI mo_tl) (nI mo_ps) (nI mo_fr) mo_sort mo_value (nI mo_ft) mo_wrongAt mo_row mo_orderMany (nI mo_fo) mo_lightest mo_heaviest mo_before mo_justSum mo_toldSum mo_allWays mo_lanes mo_sizes mo_cells mo_torn mo_had, oqI k mo_st 132 (sf)] s.heap.size = A at hD ⊢
  have hA : ∀ q : Nat, s.heap.size ≤ q → A q := fun q h => by rw [← hAe]; exact Or.inr h
  have hS : va_S A s.heap s.heap [] := va_S.rf
  have hl := lv_entry ([.ref mo, .int i, .int v]) (n := 3) (Nat.le_of_ble_eq_true rfl)
  rw [lg_entry_eq]
  generalize (lg_sl ([.ref mo, .int i, .int v]) ++ List.replicate (3 - (lg_sl ([.ref mo, .int i, .int v])).length) Slot.unset).toArray = ls at hl ⊢
  have hl : lv_has ls 3 [(0, .ref mo), (1, .int i), (2, .int v)] := hl
  have hP : va_P D vwCl [oq7 mo mo_st mo_at mo_isKept (nI mo_pe) (nI mo_hm) mo_draft (nI mo_dp) (nI mo_dh) mo_toldLines mo_highest mo_tape (nI mo_tl) (nI mo_ps) (nI mo_fr) mo_sort mo_value (nI mo_ft) mo_wrongAt mo_row mo_orderMany (nI mo_fo) mo_lightest mo_heaviest mo_before mo_justSum mo_toldSum mo_allWays mo_lanes mo_sizes mo_cells mo_torn mo_had, oqI k mo_st 132 (sf)] s.heap := hP
  refine lv_aload_n hx hb dX8_weigh_0 rfl (lv_at hl 0 rfl) ?_
  refine lv_iload_n hx hb dX8_weigh_1 rfl (lv_at hl 1 rfl) ?_
  refine hs_ciM (va_runV (As := [.int i]) (rest := []) ⟨hx, hb, hml, hown, hts⟩ (gm_isCell l D k _ mo mo_st mo_at mo_isKept mo_pe mo_hm mo_draft mo_dp mo_dh mo_toldLines mo_highest mo_tape mo_tl mo_ps mo_fr mo_sort mo_value mo_ft mo_wrongAt mo_row mo_orderMany mo_fo mo_lightest mo_heaviest mo_before mo_justSum mo_toldSum mo_allWays mo_lanes mo_sizes mo_cells mo_torn mo_had sf c0 i e0 (by omega)) (cwV 1 hts gX8_weigh_X8_isCell rfl rfl rfl ⟨rfl, hq_X8_isCell⟩ ⟨Nat.le_of_ble_eq_true rfl, Nat.le_of_ble_eq_true rfl⟩) (hs_preV hK hN (hs_subP (w := [_, _]) hP [0, 1] rfl) (hD.sub (ws' := [_, _]) [0, 1] (hs_upnd rfl) rfl) (ci := 7) (q0 := 0) rfl rfl) rfl rfl hl.1 rfl (lv_room (Nat.le_of_ble_eq_true rfl)) dX8_weigh_2 ⟨Nat.le_of_ble_eq_true rfl, Nat.le_of_ble_eq_true rfl⟩) hP hD hS hA [false, false] [] [_, _] rfl [0, 1] rfl [0, 1] (fun u_3 => [_, _]) (fun _ => rfl) (hs_upnd rfl) [false, false] (fun u_3 => [_, _]) (fun _ => rfl) (fun r_1 u_3 H locs hw_2 hP hD hS => ?_)
  refine hs_topi (hsb (hslt i c0)) hw_2 ?_
  refine lv_if_eq (tgt := 31) hx hb dX8_weigh_5 rfl (fun c_4 => ?_) (fun c_4 => ?_)
  · refine lv_iconst (v := (-1)) hx hb dX8_weigh_31 hki_m1 ?_
    exact hs_iret hx hb hr hlocks hK hP hD hS sf [0, 1] rfl (hs_upnd rfl) dX8_weigh_32 (Or.inr ⟨by rw [hs_n0 c_4]; rfl, rfl, rfl⟩)
  · obtain ⟨j_5, hj_5, rfl⟩ := hslt_ex (hs_nb c_4)
    refine lv_iload_n hx hb dX8_weigh_8 rfl (lv_at hl 2 rfl) ?_
    refine lv_i2l hx hb dX8_weigh_9 rfl ?_
    refine lv_lconst (v := 0) hx hb dX8_weigh_10 (by decide) ?_
    refine lv_ldc2 hx hb hown kl190 dX8_weigh_11 ?_
    refine hs_pi (va_runS (As := [.long (((v) : Int32).toInt64), .long 0, .long 9]) (rest := []) ⟨hx, hb, hml, hown, hts⟩ (gm_in l D k _ v 0 9) (va_cwS 3 hts gX8_weigh_X8_in rfl rfl rfl hq_X8_in ⟨Nat.le_of_ble_eq_true rfl, Nat.le_of_ble_eq_true rfl⟩) (hs_preS hK hN (hs_subP (w := []) hP [] rfl) (hD.sub (ws' := []) [] rfl rfl)) rfl rfl hl.1 rfl (lv_room (Nat.le_of_ble_eq_true rfl)) dX8_weigh_14 ⟨Nat.le_of_ble_eq_true rfl, Nat.le_of_ble_eq_true rfl⟩) hP hD hS hA (fun r_6 u_8 H locs hw_7 hP hS => ?_)
    refine hs_topi (hsb (hsin v 0 9)) hw_7 ?_
    refine lv_if_eq (tgt := 31) hx hb dX8_weigh_17 rfl (fun c_9 => ?_) (fun c_9 => ?_)
    · refine lv_iconst (v := (-1)) hx hb dX8_weigh_31 hki_m1 ?_
      exact hs_iret hx hb hr hlocks hK hP hD hS sf [0, 1] rfl (hs_upnd rfl) dX8_weigh_32 (Or.inr ⟨by rw [hs_n0 c_9, Bool.and_false], rfl, rfl⟩)
    · refine lv_aload_n hx hb dX8_weigh_20 rfl (lv_at hl 0 rfl) ?_
      refine lv_iconst (v := 1) hx hb dX8_weigh_21 hki_1 ?_
      refine lv_iload_n hx hb dX8_weigh_22 rfl (lv_at hl 1 rfl) ?_
      refine lv_iadd hx hb dX8_weigh_23 ?_
      refine hs_topi (nI (1 + j_5)) (nI_add (1) (j_5)) ?_
      refine lv_iload_n hx hb dX8_weigh_24 rfl (lv_at hl 2 rfl) ?_
      refine hs_ciM (va_runV (As := [.int (nI (1 + j_5)), .int v]) (rest := []) ⟨hx, hb, hml, hown, hts⟩ (gr_becomes l D k _ mo mo_st mo_at mo_isKept mo_pe mo_hm mo_draft mo_dp mo_dh mo_toldLines mo_highest mo_tape mo_tl mo_ps mo_fr mo_sort mo_value mo_ft mo_wrongAt mo_row mo_orderMany mo_fo mo_lightest mo_heaviest mo_before mo_justSum mo_toldSum mo_allWays mo_lanes mo_sizes mo_cells mo_torn mo_had sf (1 + j_5) v (by omega)) (cwV 2 hts gX8_weigh_X8_becomes rfl rfl rfl ⟨rfl, hq_X8_becomes⟩ ⟨Nat.le_of_ble_eq_true rfl, Nat.le_of_ble_eq_true rfl⟩) (hs_preV hK hN (hs_subP (w := [_, _]) hP [0, 1] rfl) (hD.sub (ws' := [_, _]) [0, 1] (hs_upnd rfl) rfl) (ci := 7) (q0 := 0) rfl rfl) rfl rfl hl.1 rfl (lv_room (Nat.le_of_ble_eq_true rfl)) dX8_weigh_25 ⟨Nat.le_of_ble_eq_true rfl, Nat.le_of_ble_eq_true rfl⟩) hP hD hS hA [false, false] [] [_, _] rfl [0, 1] rfl [0, 1] (fun u_12 => [_, _]) (fun _ => rfl) (hs_upnd rfl) [false, false] (fun u_12 => [_, _]) (fun _ => rfl) (fun r_10 u_12 H locs hw_11 hP hD hS => ?_)
      refine hs_topi (sf (1 + j_5)) hw_11 ?_
      refine lv_goto (tgt := 32) hx hb dX8_weigh_28 rfl ?_
      exact hs_iret hx hb hr hlocks hK hP hD hS (upd sf (1 + j_5) v) [0, 1] rfl (hs_upnd rfl) dX8_weigh_32 (Or.inl ⟨by rw [hs_nb c_4, hs_nb c_9]; rfl, by rw [nI_clamp (by omega)], by rw [nI_clamp (by omega)]⟩)

set_option maxHeartbeats 4000000 in
set_option maxRecDepth 100000 in
theorem gqf_teach (l : Launch) (D : va_G) (k : Nat → ClassId) (sz : Nat) (mo : Nat) (mo_st : Nat) (mo_at : Nat) (mo_isKept : Nat) (mo_pe : Nat) (mo_hm : Nat) (mo_draft : Nat) (mo_dp : Nat) (mo_dh : Nat) (mo_toldLines : Int32) (mo_highest : Int32) (mo_tape : Nat) (mo_tl : Nat) (mo_ps : Nat) (mo_fr : Nat) (mo_sort : Int32) (mo_value : Int32) (mo_ft : Nat) (mo_wrongAt : Int32) (mo_row : Nat) (mo_orderMany : Int32) (mo_fo : Nat) (mo_lightest : Int32) (mo_heaviest : Int32) (mo_before : Nat) (mo_justSum : Int64) (mo_toldSum : Int64) (mo_allWays : Int64) (mo_lanes : Nat) (mo_sizes : Nat) (mo_cells : Nat) (mo_torn : Int32) (mo_had : Nat) (sf : Nat → Int32) (c0 : Nat) (c3 : Nat) (c4 : Nat) (fi : Nat) (i : Int32) (v : Int32) (e0 : sf 0 = nI c0) (h0 : c0 ≤ 8) (h02 : 2 ≤ c0) (e3 : sf 16 = nI c3) (h3 : c3 ≤ 8) (e4 : sf 25 = nI c4) (h4 : c4 ≤ 6) (hpe : mo_pe ≤ 4) (hm2 : 2 ≤ mo_hm) (hm5 : mo_hm ≤ 5) (ef : sf 14 = nI fi) (hfi : fi ≤ 99) (hsaw : ∀ i, i < c4 → vp_in (sf (26 + 3 * i)) 4) : MI l yX8_teach wsX8_teach ({ frames := 2, cells := 0, slots := 0, locals := 46 }) D k [.ref mo, .int i, .int v] [oq7 mo mo_st mo_at mo_isKept (nI mo_pe) (nI mo_hm) mo_draft (nI mo_dp) (nI mo_dh) mo_toldLines mo_highest mo_tape (nI mo_tl) (nI mo_ps) (nI mo_fr) mo_sort mo_value (nI mo_ft) mo_wrongAt mo_row mo_orderMany (nI mo_fo) mo_lightest mo_heaviest mo_before mo_justSum mo_toldSum mo_allWays mo_lanes mo_sizes mo_cells mo_torn mo_had, oqI k mo_st 132 (sf)] sz (fun (r : Int32) (u : Nat → Int32) => mTe mo_pe sf i v r u) (fun (u : Nat → Int32) => [oq7 mo mo_st mo_at mo_isKept (nI mo_pe) (nI mo_hm) mo_draft (nI mo_dp) (nI mo_dh) mo_toldLines mo_highest mo_tape (nI mo_tl) (nI mo_ps) (nI mo_fr) mo_sort mo_value (nI mo_ft) mo_wrongAt mo_row mo_orderMany (nI mo_fo) mo_lightest mo_heaviest mo_before mo_justSum mo_toldSum mo_allWays mo_lanes mo_sizes mo_cells mo_torn mo_had, oqI k mo_st 132 (u)]) := by
  refine Met.ofW (cc := cX8_teach) (maxL := 3) (ret := (some .int)) hpn_X8 rfl ?_
  intro p e s m args below meth c s₁ B hml hv
  obtain ⟨rfl, hsz, hP, hK, hD0, hN⟩ := hv
  have hx := B.exec
  have hb := B.bytes
  have hr := B.returns
  have hlocks := B.notSynchronized
  have hts := atoms_spec (ws := wsX8_teach) B.pre
  have hown := findClass_of_methodNamed B.named
  have hown : s.vm.findClass RX8 = some m.cls := hown
  have kl195 := hts (.constantLong RX8 195 (3)) (List.mem_cons_of_mem _ (hs_inG 5 81 rfl rfl))
  subst hsz
  have hD := hD0.self (sz := s.heap.size)
  generalize hAe : va_A [oq7 mo mo_st mo_at mo_isKept (nI mo_pe) (nI mo_hm) mo_draft (nI mo_dp) (nI mo_dh) mo_toldLines mo_highest mo_tape (nI mo_tl) (nI mo_ps) (nI mo_fr) mo_sort mo_value (nI mo_ft) mo_wrongAt mo_row mo_orderMany (nI mo_fo) mo_lightest mo_heaviest mo_before mo_justSum mo_toldSum mo_allWays mo_lanes mo_sizes mo_cells mo_torn mo_had, oqI k mo_st 132 (sf)] s.heap.size = A at hD ⊢
  have hA : ∀ q : Nat, s.heap.size ≤ q → A q := fun q h => by rw [← hAe]; exact Or.inr h
  have hS : va_S A s.heap s.heap [] := va_S.rf
  have hl := lv_entry ([.ref mo, .int i, .int v]) (n := 3) (Nat.le_of_ble_eq_true rfl)
  rw [lg_entry_eq]
  generalize (lg_sl ([.ref mo, .int i, .int v]) ++ List.replicate (3 - (lg_sl ([.ref mo, .int i, .int v])).length) Slot.unset).toArray = ls at hl ⊢
  have hl : lv_has ls 3 [(0, .ref mo), (1, .int i), (2, .int v)] := hl
  have hP : va_P D vwCl [oq7 mo mo_st mo_at mo_isKept (nI mo_pe) (nI mo_hm) mo_draft (nI mo_dp) (nI mo_dh) mo_toldLines mo_highest mo_tape (nI mo_tl) (nI mo_ps) (nI mo_fr) mo_sort mo_value (nI mo_ft) mo_wrongAt mo_row mo_orderMany (nI mo_fo) mo_lightest mo_heaviest mo_before mo_justSum mo_toldSum mo_allWays mo_lanes mo_sizes mo_cells mo_torn mo_had, oqI k mo_st 132 (sf)] s.heap := hP
  refine lv_aload_n hx hb dX8_teach_0 rfl (lv_at hl 0 rfl) ?_
  refine lv_iload_n hx hb dX8_teach_1 rfl (lv_at hl 1 rfl) ?_
  refine hs_ciM (va_runV (As := [.int i]) (rest := []) ⟨hx, hb, hml, hown, hts⟩ (gm_isPerson l D k _ mo mo_st mo_at mo_isKept mo_pe mo_hm mo_draft mo_dp mo_dh mo_toldLines mo_highest mo_tape mo_tl mo_ps mo_fr mo_sort mo_value mo_ft mo_wrongAt mo_row mo_orderMany mo_fo mo_lightest mo_heaviest mo_before mo_justSum mo_toldSum mo_allWays mo_lanes mo_sizes mo_cells mo_torn mo_had i (by omega)) (cwV 1 hts gX8_teach_X8_isPerson rfl rfl rfl ⟨rfl, hq_X8_isPerson⟩ ⟨Nat.le_of_ble_eq_true rfl, Nat.le_of_ble_eq_true rfl⟩) (hs_preV hK hN (hs_subP (w := [_]) hP [0] rfl) (hD.sub (ws' := [_]) [0] (hs_upnd rfl) rfl) (ci := 7) (q0 := 0) rfl rfl) rfl rfl hl.1 rfl (lv_room (Nat.le_of_ble_eq_true rfl)) dX8_teach_2 ⟨Nat.le_of_ble_eq_true rfl, Nat.le_of_ble_eq_true rfl⟩) hP hD hS hA [false, true] [_] [_] rfl [0] rfl [0] (fun u_3 => [_]) (fun _ => rfl) (hs_upnd rfl) [false, true] (fun u_3 => [_, _]) (fun _ => rfl) (fun r_1 u_3 H locs hw_2 hP hD hS => ?_)
  refine hs_topi (hsb (hslt i mo_pe)) hw_2 ?_
  refine lv_if_eq (tgt := 32) hx hb dX8_teach_5 rfl (fun c_4 => ?_) (fun c_4 => ?_)
  · refine lv_iconst (v := (-1)) hx hb dX8_teach_32 hki_m1 ?_
    exact hs_iret hx hb hr hlocks hK hP hD hS sf [0, 1] rfl (hs_upnd rfl) dX8_teach_33 (Or.inr ⟨by rw [hs_n0 c_4]; rfl, rfl, rfl⟩)
  · obtain ⟨j_5, hj_5, rfl⟩ := hslt_ex (hs_nb c_4)
    refine lv_iload_n hx hb dX8_teach_8 rfl (lv_at hl 2 rfl) ?_
    refine lv_i2l hx hb dX8_teach_9 rfl ?_
    refine lv_lconst (v := 0) hx hb dX8_teach_10 (by decide) ?_
    refine lv_ldc2 hx hb hown kl195 dX8_teach_11 ?_
    refine hs_pi (va_runS (As := [.long (((v) : Int32).toInt64), .long 0, .long 3]) (rest := []) ⟨hx, hb, hml, hown, hts⟩ (gm_in l D k _ v 0 3) (va_cwS 3 hts gX8_teach_X8_in rfl rfl rfl hq_X8_in ⟨Nat.le_of_ble_eq_true rfl, Nat.le_of_ble_eq_true rfl⟩) (hs_preS hK hN (hs_subP (w := []) hP [] rfl) (hD.sub (ws' := []) [] rfl rfl)) rfl rfl hl.1 rfl (lv_room (Nat.le_of_ble_eq_true rfl)) dX8_teach_14 ⟨Nat.le_of_ble_eq_true rfl, Nat.le_of_ble_eq_true rfl⟩) hP hD hS hA (fun r_6 u_8 H locs hw_7 hP hS => ?_)
    refine hs_topi (hsb (hsin v 0 3)) hw_7 ?_
    refine lv_if_eq (tgt := 32) hx hb dX8_teach_17 rfl (fun c_9 => ?_) (fun c_9 => ?_)
    · refine lv_iconst (v := (-1)) hx hb dX8_teach_32 hki_m1 ?_
      exact hs_iret hx hb hr hlocks hK hP hD hS sf [0, 1] rfl (hs_upnd rfl) dX8_teach_33 (Or.inr ⟨by rw [hs_n0 c_9, Bool.and_false], rfl, rfl⟩)
    · refine lv_aload_n hx hb dX8_teach_20 rfl (lv_at hl 0 rfl) ?_
      refine lv_bipush (v := 9) hx hb dX8_teach_21 hkb_9 ?_
      refine lv_iload_n hx hb dX8_teach_23 rfl (lv_at hl 1 rfl) ?_
      refine lv_iadd hx hb dX8_teach_24 ?_
      refine hs_topi (nI (9 + j_5)) (nI_add (9) (j_5)) ?_
      refine lv_iload_n hx hb dX8_teach_25 rfl (lv_at hl 2 rfl) ?_
      refine hs_ciM (va_runV (As := [.int (nI (9 + j_5)), .int v]) (rest := []) ⟨hx, hb, hml, hown, hts⟩ (gr_becomes l D k _ mo mo_st mo_at mo_isKept mo_pe mo_hm mo_draft mo_dp mo_dh mo_toldLines mo_highest mo_tape mo_tl mo_ps mo_fr mo_sort mo_value mo_ft mo_wrongAt mo_row mo_orderMany mo_fo mo_lightest mo_heaviest mo_before mo_justSum mo_toldSum mo_allWays mo_lanes mo_sizes mo_cells mo_torn mo_had sf (9 + j_5) v (by omega)) (cwV 2 hts gX8_teach_X8_becomes rfl rfl rfl ⟨rfl, hq_X8_becomes⟩ ⟨Nat.le_of_ble_eq_true rfl, Nat.le_of_ble_eq_true rfl⟩) (hs_preV hK hN (hs_subP (w := [_, _]) hP [0, 1] rfl) (hD.sub (ws' := [_, _]) [0, 1] (hs_upnd rfl) rfl) (ci := 7) (q0 := 0) rfl rfl) rfl rfl hl.1 rfl (lv_room (Nat.le_of_ble_eq_true rfl)) dX8_teach_26 ⟨Nat.le_of_ble_eq_true rfl, Nat.le_of_ble_eq_true rfl⟩) hP hD hS hA [false, false] [] [_, _] rfl [0, 1] rfl [0, 1] (fun u_12 => [_, _]) (fun _ => rfl) (hs_upnd rfl) [false, false] (fun u_12 => [_, _]) (fun _ => rfl) (fun r_10 u_12 H locs hw_11 hP hD hS => ?_)
      refine hs_topi (sf (9 + j_5)) hw_11 ?_
      refine lv_goto (tgt := 33) hx hb dX8_teach_29 rfl ?_
      exact hs_iret hx hb hr hlocks hK hP hD hS (upd sf (9 + j_5) v) [0, 1] rfl (hs_upnd rfl) dX8_teach_33 (Or.inl ⟨by rw [hs_nb c_4, hs_nb c_9]; rfl, by rw [nI_clamp (by omega)], by rw [nI_clamp (by omega)]⟩)

set_option maxHeartbeats 4000000 in
set_option maxRecDepth 100000 in
theorem gqf_set (l : Launch) (D : va_G) (k : Nat → ClassId) (sz : Nat) (mo : Nat) (mo_st : Nat) (mo_at : Nat) (mo_isKept : Nat) (mo_pe : Nat) (mo_hm : Nat) (mo_draft : Nat) (mo_dp : Nat) (mo_dh : Nat) (mo_toldLines : Int32) (mo_highest : Int32) (mo_tape : Nat) (mo_tl : Nat) (mo_ps : Nat) (mo_fr : Nat) (mo_sort : Int32) (mo_value : Int32) (mo_ft : Nat) (mo_wrongAt : Int32) (mo_row : Nat) (mo_orderMany : Int32) (mo_fo : Nat) (mo_lightest : Int32) (mo_heaviest : Int32) (mo_before : Nat) (mo_justSum : Int64) (mo_toldSum : Int64) (mo_allWays : Int64) (mo_lanes : Nat) (mo_sizes : Nat) (mo_cells : Nat) (mo_torn : Int32) (mo_had : Nat) (sf : Nat → Int32) (c0 : Nat) (c3 : Nat) (c4 : Nat) (fi : Nat) (what : Int32) (v : Int32) (e0 : sf 0 = nI c0) (h0 : c0 ≤ 8) (h02 : 2 ≤ c0) (e3 : sf 16 = nI c3) (h3 : c3 ≤ 8) (e4 : sf 25 = nI c4) (h4 : c4 ≤ 6) (hpe : mo_pe ≤ 4) (hm2 : 2 ≤ mo_hm) (hm5 : mo_hm ≤ 5) (ef : sf 14 = nI fi) (hfi : fi ≤ 99) (hsaw : ∀ i, i < c4 → vp_in (sf (26 + 3 * i)) 4) : MI l yX8_set wsX8_set ({ frames := 1, cells := 0, slots := 0, locals := 25 }) D k [.ref mo, .int what, .int v] [oq7 mo mo_st mo_at mo_isKept (nI mo_pe) (nI mo_hm) mo_draft (nI mo_dp) (nI mo_dh) mo_toldLines mo_highest mo_tape (nI mo_tl) (nI mo_ps) (nI mo_fr) mo_sort mo_value (nI mo_ft) mo_wrongAt mo_row mo_orderMany (nI mo_fo) mo_lightest mo_heaviest mo_before mo_justSum mo_toldSum mo_allWays mo_lanes mo_sizes mo_cells mo_torn mo_had, oqI k mo_st 132 (sf)] sz (fun (r : Int32) (u : Nat → Int32) => mSe sf what v r u) (fun (u : Nat → Int32) => [oq7 mo mo_st mo_at mo_isKept (nI mo_pe) (nI mo_hm) mo_draft (nI mo_dp) (nI mo_dh) mo_toldLines mo_highest mo_tape (nI mo_tl) (nI mo_ps) (nI mo_fr) mo_sort mo_value (nI mo_ft) mo_wrongAt mo_row mo_orderMany (nI mo_fo) mo_lightest mo_heaviest mo_before mo_justSum mo_toldSum mo_allWays mo_lanes mo_sizes mo_cells mo_torn mo_had, oqI k mo_st 132 (u)]) := by
  refine Met.ofW (cc := cX8_set) (maxL := 3) (ret := (some .int)) hpn_X8 rfl ?_
  intro p e s m args below meth c s₁ B hml hv
  obtain ⟨rfl, hsz, hP, hK, hD0, hN⟩ := hv
  have hx := B.exec
  have hb := B.bytes
  have hr := B.returns
  have hlocks := B.notSynchronized
  have hts := atoms_spec (ws := wsX8_set) B.pre
  have hown := findClass_of_methodNamed B.named
  have hown : s.vm.findClass RX8 = some m.cls := hown
  have kl197 := hts (.constantLong RX8 197 (2)) (List.mem_cons_of_mem _ (hs_inG 5 86 rfl rfl))
  have kl195 := hts (.constantLong RX8 195 (3)) (List.mem_cons_of_mem _ (hs_inG 5 81 rfl rfl))
  have kl190 := hts (.constantLong RX8 190 (9)) (List.mem_cons_of_mem _ (hs_inG 5 64 rfl rfl))
  have kl199 := hts (.constantLong RX8 199 (99)) (List.mem_cons_of_mem _ (hs_inG 5 87 rfl rfl))
  subst hsz
  have hD := hD0.self (sz := s.heap.size)
  generalize hAe : va_A [oq7 mo mo_st mo_at mo_isKept (nI mo_pe) (nI mo_hm) mo_draft (nI mo_dp) (nI mo_dh) mo_toldLines mo_highest mo_tape (nI mo_tl) (nI mo_ps) (nI mo_fr) mo_sort mo_value (nI mo_ft) mo_wrongAt mo_row mo_orderMany (nI mo_fo) mo_lightest mo_heaviest mo_before mo_justSum mo_toldSum mo_allWays mo_lanes mo_sizes mo_cells mo_torn mo_had, oqI k mo_st 132 (sf)] s.heap.size = A at hD ⊢
  have hA : ∀ q : Nat, s.heap.size ≤ q → A q := fun q h => by rw [← hAe]; exact Or.inr h
  have hS : va_S A s.heap s.heap [] := va_S.rf
  have hl := lv_entry ([.ref mo, .int what, .int v]) (n := 3) (Nat.le_of_ble_eq_true rfl)
  rw [lg_entry_eq]
  generalize (lg_sl ([.ref mo, .int what, .int v]) ++ List.replicate (3 - (lg_sl ([.ref mo, .int what, .int v])).length) Slot.unset).toArray = ls at hl ⊢
  have hl : lv_has ls 3 [(0, .ref mo), (1, .int what), (2, .int v)] := hl
  have hP : va_P D vwCl [oq7 mo mo_st mo_at mo_isKept (nI mo_pe) (nI mo_hm) mo_draft (nI mo_dp) (nI mo_dh) mo_toldLines mo_highest mo_tape (nI mo_tl) (nI mo_ps) (nI mo_fr) mo_sort mo_value (nI mo_ft) mo_wrongAt mo_row mo_orderMany (nI mo_fo) mo_lightest mo_heaviest mo_before mo_justSum mo_toldSum mo_allWays mo_lanes mo_sizes mo_cells mo_torn mo_had, oqI k mo_st 132 (sf)] s.heap := hP
  refine lv_iload_n hx hb dX8_set_0 rfl (lv_at hl 1 rfl) ?_
  refine lv_i2l hx hb dX8_set_1 rfl ?_
  refine lv_ldc2 hx hb hown kl197 dX8_set_2 ?_
  refine lv_ldc2 hx hb hown kl195 dX8_set_5 ?_
  refine hs_pi (va_runS (As := [.long (((what) : Int32).toInt64), .long 2, .long 3]) (rest := []) ⟨hx, hb, hml, hown, hts⟩ (gm_in l D k _ what 2 3) (va_cwS 3 hts gX8_set_X8_in rfl rfl rfl hq_X8_in ⟨Nat.le_of_ble_eq_true rfl, Nat.le_of_ble_eq_true rfl⟩) (hs_preS hK hN (hs_subP (w := []) hP [] rfl) (hD.sub (ws' := []) [] rfl rfl)) rfl rfl hl.1 rfl (lv_room (Nat.le_of_ble_eq_true rfl)) dX8_set_8 ⟨Nat.le_of_ble_eq_true rfl, Nat.le_of_ble_eq_true rfl⟩) hP hD hS hA (fun r_1 u_3 H locs hw_2 hP hS => ?_)
  refine hs_topi (hsb (hsin what 2 3)) hw_2 ?_
  refine lv_if_eq (tgt := 51) hx hb dX8_set_11 rfl (fun c_4 => ?_) (fun c_4 => ?_)
  · refine lv_iconst (v := (-1)) hx hb dX8_set_51 hki_m1 ?_
    exact hs_iret hx hb hr hlocks hK hP hD hS sf [0, 1] rfl (hs_upnd rfl) dX8_set_52 (Or.inr (Or.inr ⟨fun z9 => absurd (hs_n0 c_4) (by rw [z9.1]; decide), fun z9 => absurd (hs_n0 c_4) (by rw [z9.1]; decide), rfl, rfl⟩))
  · rcases hs_v23 (hs_nb c_4) with rfl | rfl
    · refine lv_iload_n hx hb dX8_set_14 rfl (lv_at hl 2 rfl) ?_
      refine lv_i2l hx hb dX8_set_15 rfl ?_
      refine lv_lconst (v := 0) hx hb dX8_set_16 (by decide) ?_
      refine lv_iload_n hx hb dX8_set_17 rfl (lv_at hl 1 rfl) ?_
      refine lv_iconst (v := 2) hx hb dX8_set_18 hki_2 ?_
      refine lv_icmp_ne (tgt := 28) hx hb dX8_set_19 rfl (fun c_5 => absurd c_5 (by decide)) (fun c_5 => ?_)
      refine lv_ldc2 hx hb hown kl190 dX8_set_22 ?_
      refine lv_goto (tgt := 31) hx hb dX8_set_25 rfl ?_
      refine hs_pi (va_runS (As := [.long (((v) : Int32).toInt64), .long 0, .long 9]) (rest := []) ⟨hx, hb, hml, hown, hts⟩ (gm_in l D k _ v 0 9) (va_cwS 3 hts gX8_set_X8_in rfl rfl rfl hq_X8_in ⟨Nat.le_of_ble_eq_true rfl, Nat.le_of_ble_eq_true rfl⟩) (hs_preS hK hN (hs_subP (w := []) hP [] rfl) (hD.sub (ws' := []) [] rfl rfl)) rfl rfl hl.1 rfl (lv_room (Nat.le_of_ble_eq_true rfl)) dX8_set_31 ⟨Nat.le_of_ble_eq_true rfl, Nat.le_of_ble_eq_true rfl⟩) hP hD hS hA (fun r_6 u_8 H locs hw_7 hP hS => ?_)
      refine hs_topi (hsb (hsin v 0 9)) hw_7 ?_
      refine lv_if_eq (tgt := 51) hx hb dX8_set_34 rfl (fun c_9 => ?_) (fun c_9 => ?_)
      · refine lv_iconst (v := (-1)) hx hb dX8_set_51 hki_m1 ?_
        exact hs_iret hx hb hr hlocks hK hP hD hS sf [0, 1] rfl (hs_upnd rfl) dX8_set_52 (Or.inr (Or.inr ⟨fun z9 => absurd z9.2 (by rw [hs_n0 c_9]; decide), fun z9 => absurd z9.1 (by decide), rfl, rfl⟩))
      · obtain ⟨jv, hjv, hjvb, rfl⟩ := hs_rng (lo := 0) (hi := 9) (by omega) (by omega) (hs_nb c_9)
        refine lv_aload_n hx hb dX8_set_37 rfl (lv_at hl 0 rfl) ?_
        refine lv_bipush (v := 13) hx hb dX8_set_38 hkb_13 ?_
        refine lv_iload_n hx hb dX8_set_40 rfl (lv_at hl 1 rfl) ?_
        refine lv_iadd hx hb dX8_set_41 ?_
        refine hs_topi 15 (by first | rfl | decide +kernel) ?_
        refine lv_iconst (v := 2) hx hb dX8_set_42 hki_2 ?_
        refine lv_isub hx hb dX8_set_43 ?_
        refine hs_topi 13 (by first | rfl | decide +kernel) ?_
        refine lv_iload_n hx hb dX8_set_44 rfl (lv_at hl 2 rfl) ?_
        refine hs_ciM (va_runV (As := [.int 13, .int (nI jv)]) (rest := []) ⟨hx, hb, hml, hown, hts⟩ (gr_becomes l D k _ mo mo_st mo_at mo_isKept mo_pe mo_hm mo_draft mo_dp mo_dh mo_toldLines mo_highest mo_tape mo_tl mo_ps mo_fr mo_sort mo_value mo_ft mo_wrongAt mo_row mo_orderMany mo_fo mo_lightest mo_heaviest mo_before mo_justSum mo_toldSum mo_allWays mo_lanes mo_sizes mo_cells mo_torn mo_had sf 13 (nI jv) (by omega)) (cwV 2 hts gX8_set_X8_becomes rfl rfl rfl ⟨rfl, hq_X8_becomes⟩ ⟨Nat.le_of_ble_eq_true rfl, Nat.le_of_ble_eq_true rfl⟩) (hs_preV hK hN (hs_subP (w := [_, _]) hP [0, 1] rfl) (hD.sub (ws' := [_, _]) [0, 1] (hs_upnd rfl) rfl) (ci := 7) (q0 := 0) rfl rfl) rfl rfl hl.1 rfl (lv_room (Nat.le_of_ble_eq_true rfl)) dX8_set_45 ⟨Nat.le_of_ble_eq_true rfl, Nat.le_of_ble_eq_true rfl⟩) hP hD hS hA [false, false] [] [_, _] rfl [0, 1] rfl [0, 1] (fun u_12 => [_, _]) (fun _ => rfl) (hs_upnd rfl) [false, false] (fun u_12 => [_, _]) (fun _ => rfl) (fun r_10 u_12 H locs hw_11 hP hD hS => ?_)
        refine hs_topi (sf 13) hw_11 ?_
        refine lv_goto (tgt := 52) hx hb dX8_set_48 rfl ?_
        exact hs_iret hx hb hr hlocks hK hP hD hS (upd sf 13 (nI jv)) [0, 1] rfl (hs_upnd rfl) dX8_set_52 (Or.inl ⟨rfl, hs_nb c_9, rfl, rfl⟩)
    · refine lv_iload_n hx hb dX8_set_14 rfl (lv_at hl 2 rfl) ?_
      refine lv_i2l hx hb dX8_set_15 rfl ?_
      refine lv_lconst (v := 0) hx hb dX8_set_16 (by decide) ?_
      refine lv_iload_n hx hb dX8_set_17 rfl (lv_at hl 1 rfl) ?_
      refine lv_iconst (v := 2) hx hb dX8_set_18 hki_2 ?_
      refine lv_icmp_ne (tgt := 28) hx hb dX8_set_19 rfl (fun c_13 => ?_) (fun c_13 => absurd c_13 (by decide))
      refine lv_ldc2 hx hb hown kl199 dX8_set_28 ?_
      refine hs_pi (va_runS (As := [.long (((v) : Int32).toInt64), .long 0, .long 99]) (rest := []) ⟨hx, hb, hml, hown, hts⟩ (gm_in l D k _ v 0 99) (va_cwS 3 hts gX8_set_X8_in rfl rfl rfl hq_X8_in ⟨Nat.le_of_ble_eq_true rfl, Nat.le_of_ble_eq_true rfl⟩) (hs_preS hK hN (hs_subP (w := []) hP [] rfl) (hD.sub (ws' := []) [] rfl rfl)) rfl rfl hl.1 rfl (lv_room (Nat.le_of_ble_eq_true rfl)) dX8_set_31 ⟨Nat.le_of_ble_eq_true rfl, Nat.le_of_ble_eq_true rfl⟩) hP hD hS hA (fun r_14 u_16 H locs hw_15 hP hS => ?_)
      refine hs_topi (hsb (hsin v 0 99)) hw_15 ?_
      refine lv_if_eq (tgt := 51) hx hb dX8_set_34 rfl (fun c_17 => ?_) (fun c_17 => ?_)
      · refine lv_iconst (v := (-1)) hx hb dX8_set_51 hki_m1 ?_
        exact hs_iret hx hb hr hlocks hK hP hD hS sf [0, 1] rfl (hs_upnd rfl) dX8_set_52 (Or.inr (Or.inr ⟨fun z9 => absurd z9.1 (by decide), fun z9 => absurd z9.2 (by rw [hs_n0 c_17]; decide), rfl, rfl⟩))
      · obtain ⟨jv, hjv, hjvb, rfl⟩ := hs_rng (lo := 0) (hi := 99) (by omega) (by omega) (hs_nb c_17)
        refine lv_aload_n hx hb dX8_set_37 rfl (lv_at hl 0 rfl) ?_
        refine lv_bipush (v := 13) hx hb dX8_set_38 hkb_13 ?_
        refine lv_iload_n hx hb dX8_set_40 rfl (lv_at hl 1 rfl) ?_
        refine lv_iadd hx hb dX8_set_41 ?_
        refine hs_topi 16 (by first | rfl | decide +kernel) ?_
        refine lv_iconst (v := 2) hx hb dX8_set_42 hki_2 ?_
        refine lv_isub hx hb dX8_set_43 ?_
        refine hs_topi 14 (by first | rfl | decide +kernel) ?_
        refine lv_iload_n hx hb dX8_set_44 rfl (lv_at hl 2 rfl) ?_
        refine hs_ciM (va_runV (As := [.int 14, .int (nI jv)]) (rest := []) ⟨hx, hb, hml, hown, hts⟩ (gr_becomes l D k _ mo mo_st mo_at mo_isKept mo_pe mo_hm mo_draft mo_dp mo_dh mo_toldLines mo_highest mo_tape mo_tl mo_ps mo_fr mo_sort mo_value mo_ft mo_wrongAt mo_row mo_orderMany mo_fo mo_lightest mo_heaviest mo_before mo_justSum mo_toldSum mo_allWays mo_lanes mo_sizes mo_cells mo_torn mo_had sf 14 (nI jv) (by omega)) (cwV 2 hts gX8_set_X8_becomes rfl rfl rfl ⟨rfl, hq_X8_becomes⟩ ⟨Nat.le_of_ble_eq_true rfl, Nat.le_of_ble_eq_true rfl⟩) (hs_preV hK hN (hs_subP (w := [_, _]) hP [0, 1] rfl) (hD.sub (ws' := [_, _]) [0, 1] (hs_upnd rfl) rfl) (ci := 7) (q0 := 0) rfl rfl) rfl rfl hl.1 rfl (lv_room (Nat.le_of_ble_eq_true rfl)) dX8_set_45 ⟨Nat.le_of_ble_eq_true rfl, Nat.le_of_ble_eq_true rfl⟩) hP hD hS hA [false, false] [] [_, _] rfl [0, 1] rfl [0, 1] (fun u_20 => [_, _]) (fun _ => rfl) (hs_upnd rfl) [false, false] (fun u_20 => [_, _]) (fun _ => rfl) (fun r_18 u_20 H locs hw_19 hP hD hS => ?_)
        refine hs_topi (sf 14) hw_19 ?_
        refine lv_goto (tgt := 52) hx hb dX8_set_48 rfl ?_
        exact hs_iret hx hb hr hlocks hK hP hD hS (upd sf 14 (nI jv)) [0, 1] rfl (hs_upnd rfl) dX8_set_52 (Or.inr (Or.inl ⟨rfl, hs_nb c_17, rfl, rfl⟩))

set_option maxHeartbeats 4000000 in
set_option maxRecDepth 100000 in
theorem gqf_appeal (l : Launch) (D : va_G) (k : Nat → ClassId) (sz : Nat) (mo : Nat) (mo_st : Nat) (mo_at : Nat) (mo_isKept : Nat) (mo_pe : Nat) (mo_hm : Nat) (mo_draft : Nat) (mo_dp : Nat) (mo_dh : Nat) (mo_toldLines : Int32) (mo_highest : Int32) (mo_tape : Nat) (mo_tl : Nat) (mo_ps : Nat) (mo_fr : Nat) (mo_sort : Int32) (mo_value : Int32) (mo_ft : Nat) (mo_wrongAt : Int32) (mo_row : Nat) (mo_orderMany : Int32) (mo_fo : Nat) (mo_lightest : Int32) (mo_heaviest : Int32) (mo_before : Nat) (mo_justSum : Int64) (mo_toldSum : Int64) (mo_allWays : Int64) (mo_lanes : Nat) (mo_sizes : Nat) (mo_cells : Nat) (mo_torn : Int32) (mo_had : Nat) (sf : Nat → Int32) (c0 : Nat) (c3 : Nat) (c4 : Nat) (fi : Nat) (e0 : sf 0 = nI c0) (h0 : c0 ≤ 8) (h02 : 2 ≤ c0) (e3 : sf 16 = nI c3) (h3 : c3 ≤ 8) (e4 : sf 25 = nI c4) (h4 : c4 ≤ 6) (hpe : mo_pe ≤ 4) (hm2 : 2 ≤ mo_hm) (hm5 : mo_hm ≤ 5) (ef : sf 14 = nI fi) (hfi : fi ≤ 99) (hsaw : ∀ i, i < c4 → vp_in (sf (26 + 3 * i)) 4) : MI l yX8_appeal wsX8_appeal ({ frames := 0, cells := 0, slots := 0, locals := 0 }) D k [.ref mo] [oq7 mo mo_st mo_at mo_isKept (nI mo_pe) (nI mo_hm) mo_draft (nI mo_dp) (nI mo_dh) mo_toldLines mo_highest mo_tape (nI mo_tl) (nI mo_ps) (nI mo_fr) mo_sort mo_value (nI mo_ft) mo_wrongAt mo_row mo_orderMany (nI mo_fo) mo_lightest mo_heaviest mo_before mo_justSum mo_toldSum mo_allWays mo_lanes mo_sizes mo_cells mo_torn mo_had, oqI k mo_st 132 (sf)] sz (fun (r : Int32) (u : Nat → Int32) => mAp sf r u) (fun (u : Nat → Int32) => [oq7 mo mo_st mo_at mo_isKept (nI mo_pe) (nI mo_hm) mo_draft (nI mo_dp) (nI mo_dh) mo_toldLines mo_highest mo_tape (nI mo_tl) (nI mo_ps) (nI mo_fr) mo_sort mo_value (nI mo_ft) mo_wrongAt mo_row mo_orderMany (nI mo_fo) mo_lightest mo_heaviest mo_before mo_justSum mo_toldSum mo_allWays mo_lanes mo_sizes mo_cells mo_torn mo_had, oqI k mo_st 132 (u)]) := by
  refine Met.ofW (cc := cX8_appeal) (maxL := 1) (ret := (some .int)) hpn_X8 rfl ?_
  intro p e s m args below meth c s₁ B hml hv
  obtain ⟨rfl, hsz, hP, hK, hD0, hN⟩ := hv
  have hx := B.exec
  have hb := B.bytes
  have hr := B.returns
  have hlocks := B.notSynchronized
  have hts := atoms_spec (ws := wsX8_appeal) B.pre
  have hown := findClass_of_methodNamed B.named
  have hown : s.vm.findClass RX8 = some m.cls := hown
  have hiX8 : ∀ w ∈ u_ws RX8 TX8 32, w ∈ wsX8_appeal := fun w9 hw9 => List.mem_cons_of_mem _ (igX8 w9 hw9)
  have fl7 := hts (.fieldLink RX8 7 "HalfScalesModel" "st" "[I") (List.mem_cons_of_mem _ (hs_inG 4 80 rfl rfl))
  subst hsz
  have hD := hD0.self (sz := s.heap.size)
  generalize hAe : va_A [oq7 mo mo_st mo_at mo_isKept (nI mo_pe) (nI mo_hm) mo_draft (nI mo_dp) (nI mo_dh) mo_toldLines mo_highest mo_tape (nI mo_tl) (nI mo_ps) (nI mo_fr) mo_sort mo_value (nI mo_ft) mo_wrongAt mo_row mo_orderMany (nI mo_fo) mo_lightest mo_heaviest mo_before mo_justSum mo_toldSum mo_allWays mo_lanes mo_sizes mo_cells mo_torn mo_had, oqI k mo_st 132 (sf)] s.heap.size = A at hD ⊢
  have hA : ∀ q : Nat, s.heap.size ≤ q → A q := fun q h => by rw [← hAe]; exact Or.inr h
  have hS : va_S A s.heap s.heap [] := va_S.rf
  have hl := lv_entry ([.ref mo]) (n := 1) (Nat.le_of_ble_eq_true rfl)
  rw [lg_entry_eq]
  generalize (lg_sl ([.ref mo]) ++ List.replicate (1 - (lg_sl ([.ref mo])).length) Slot.unset).toArray = ls at hl ⊢
  have hl : lv_has ls 1 [(0, .ref mo)] := hl
  have hP : va_P D vwCl [oq7 mo mo_st mo_at mo_isKept (nI mo_pe) (nI mo_hm) mo_draft (nI mo_dp) (nI mo_dh) mo_toldLines mo_highest mo_tape (nI mo_tl) (nI mo_ps) (nI mo_fr) mo_sort mo_value (nI mo_ft) mo_wrongAt mo_row mo_orderMany (nI mo_fo) mo_lightest mo_heaviest mo_before mo_justSum mo_toldSum mo_allWays mo_lanes mo_sizes mo_cells mo_torn mo_had, oqI k mo_st 132 (sf)] s.heap := hP
  refine lv_aload_n hx hb dX8_appeal_0 rfl (lv_at hl 0 rfl) ?_
  refine va_get (D := D) (ci := 7) (v := .ref mo_st) (C := RX8) (T := TX8) (N := 32) hx hb hts hiX8 hown hK hP 0 rfl rfl 0 (Nat.le_of_ble_eq_true rfl) fl7 (fun _ h9 => h9) rfl dX8_appeal_1 ?_
  refine lv_bipush (v := 14) hx hb dX8_appeal_4 hkb_14 ?_
  refine va_iald hx hb hK hP 1 0 rfl rfl (hs_in (by decide)) dX8_appeal_6 ?_
  refine hs_topi (sf 14) (by rfl) ?_
  refine lv_iconst (v := 2) hx hb dX8_appeal_7 hki_2 ?_
  refine lv_icmp_ge (tgt := 14) hx hb dX8_appeal_8 rfl (fun c_1 => ?_) (fun c_1 => ?_)
  · refine lv_aload_n hx hb dX8_appeal_14 rfl (lv_at hl 0 rfl) ?_
    refine va_get (D := D) (ci := 7) (v := .ref mo_st) (C := RX8) (T := TX8) (N := 32) hx hb hts hiX8 hown hK hP 0 rfl rfl 0 (Nat.le_of_ble_eq_true rfl) fl7 (fun _ h9 => h9) rfl dX8_appeal_15 ?_
    refine lv_bipush (v := 14) hx hb dX8_appeal_18 hkb_14 ?_
    refine lv_dup2_11 hx hb dX8_appeal_20 rfl rfl ?_
    refine va_iald hx hb hK hP 1 0 rfl rfl (hs_in (by decide)) dX8_appeal_21 ?_
    refine hs_topi (sf 14) (by rfl) ?_
    refine lv_aload_n hx hb dX8_appeal_22 rfl (lv_at hl 0 rfl) ?_
    refine va_get (D := D) (ci := 7) (v := .ref mo_st) (C := RX8) (T := TX8) (N := 32) hx hb hts hiX8 hown hK hP 0 rfl rfl 0 (Nat.le_of_ble_eq_true rfl) fl7 (fun _ h9 => h9) rfl dX8_appeal_23 ?_
    refine lv_bipush (v := 14) hx hb dX8_appeal_26 hkb_14 ?_
    refine va_iald hx hb hK hP 1 0 rfl rfl (hs_in (by decide)) dX8_appeal_28 ?_
    refine hs_topi (sf 14) (by rfl) ?_
    refine lv_iconst (v := 2) hx hb dX8_appeal_29 hki_2 ?_
    refine lv_idiv hx hb dX8_appeal_30 (by decide) ?_
    refine lv_isub hx hb dX8_appeal_31 ?_
    refine va_iast hx hb hK hP hD hS 1 0 rfl rfl (hs_in (by decide)) dX8_appeal_32 (fun H locs hP hD hS => ?_)
    have hP : va_P D vwCl [oq7 mo mo_st mo_at mo_isKept (nI mo_pe) (nI mo_hm) mo_draft (nI mo_dp) (nI mo_dh) mo_toldLines mo_highest mo_tape (nI mo_tl) (nI mo_ps) (nI mo_fr) mo_sort mo_value (nI mo_ft) mo_wrongAt mo_row mo_orderMany (nI mo_fo) mo_lightest mo_heaviest mo_before mo_justSum mo_toldSum mo_allWays mo_lanes mo_sizes mo_cells mo_torn mo_had, oqI k mo_st 132 (upd sf 14 ((sf 14) - ((sf 14) / 2)))] H := hP
    have hD : va_D A [oq7 mo mo_st mo_at mo_isKept (nI mo_pe) (nI mo_hm) mo_draft (nI mo_dp) (nI mo_dh) mo_toldLines mo_highest mo_tape (nI mo_tl) (nI mo_ps) (nI mo_fr) mo_sort mo_value (nI mo_ft) mo_wrongAt mo_row mo_orderMany (nI mo_fo) mo_lightest mo_heaviest mo_before mo_justSum mo_toldSum mo_allWays mo_lanes mo_sizes mo_cells mo_torn mo_had, oqI k mo_st 132 (upd sf 14 ((sf 14) - ((sf 14) / 2)))] := hD
    refine lv_aload_n hx hb dX8_appeal_33 rfl (lv_at hl 0 rfl) ?_
    refine va_get (D := D) (ci := 7) (v := .ref mo_st) (C := RX8) (T := TX8) (N := 32) hx hb hts hiX8 hown hK hP 0 rfl rfl 0 (Nat.le_of_ble_eq_true rfl) fl7 (fun _ h9 => h9) rfl dX8_appeal_34 ?_
    refine lv_bipush (v := 15) hx hb dX8_appeal_37 hkb_15 ?_
    refine lv_dup2_11 hx hb dX8_appeal_39 rfl rfl ?_
    refine va_iald hx hb hK hP 1 0 rfl rfl (hs_in (by decide)) dX8_appeal_40 ?_
    refine hs_topi (sf 15) (hs_un (by decide)) ?_
    refine lv_iconst (v := 1) hx hb dX8_appeal_41 hki_1 ?_
    refine lv_iadd hx hb dX8_appeal_42 ?_
    refine va_iast hx hb hK hP hD hS 1 0 rfl rfl (hs_in (by decide)) dX8_appeal_43 (fun H locs hP hD hS => ?_)
    have hP : va_P D vwCl [_, oqI k mo_st 132 (upd (upd sf 14 ((sf 14) - ((sf 14) / 2))) 15 ((sf 15) + 1))] H := hP
    have hD : va_D A [_, oqI k mo_st 132 (upd (upd sf 14 ((sf 14) - ((sf 14) / 2))) 15 ((sf 15) + 1))] := hD
    refine lv_aload_n hx hb dX8_appeal_44 rfl (lv_at hl 0 rfl) ?_
    refine va_get (D := D) (ci := 7) (v := .ref mo_st) (C := RX8) (T := TX8) (N := 32) hx hb hts hiX8 hown hK hP 0 rfl rfl 0 (Nat.le_of_ble_eq_true rfl) fl7 (fun _ h9 => h9) rfl dX8_appeal_45 ?_
    refine lv_bipush (v := 14) hx hb dX8_appeal_48 hkb_14 ?_
    refine va_iald hx hb hK hP 1 0 rfl rfl (hs_in (by decide)) dX8_appeal_50 ?_
    refine hs_topi ((sf 14) - ((sf 14) / 2)) (by first | rfl | decide +kernel) ?_
    exact hs_iret hx hb hr hlocks hK hP hD hS (upd (upd sf 14 ((sf 14) - ((sf 14) / 2))) 15 ((sf 15) + 1)) [0, 1] rfl (hs_upnd rfl) dX8_appeal_51 (Or.inr ⟨Int32.not_lt.mpr c_1, rfl, rfl⟩)
  · refine lv_bipush (v := (-2)) hx hb dX8_appeal_11 hkb_m2 ?_
    exact hs_iret hx hb hr hlocks hK hP hD hS sf [0, 1] rfl (hs_upnd rfl) dX8_appeal_13 (Or.inl ⟨Int32.not_le.mp c_1, rfl, rfl⟩)

set_option maxHeartbeats 4000000 in
set_option maxRecDepth 100000 in
theorem gqf_split (l : Launch) (D : va_G) (k : Nat → ClassId) (sz : Nat) (mo : Nat) (mo_st : Nat) (mo_at : Nat) (mo_isKept : Nat) (mo_pe : Nat) (mo_hm : Nat) (mo_draft : Nat) (mo_dp : Nat) (mo_dh : Nat) (mo_toldLines : Int32) (mo_highest : Int32) (mo_tape : Nat) (mo_tl : Nat) (mo_ps : Nat) (mo_fr : Nat) (mo_sort : Int32) (mo_value : Int32) (mo_ft : Nat) (mo_wrongAt : Int32) (mo_row : Nat) (mo_orderMany : Int32) (mo_fo : Nat) (mo_lightest : Int32) (mo_heaviest : Int32) (mo_before : Nat) (mo_justSum : Int64) (mo_toldSum : Int64) (mo_allWays : Int64) (mo_lanes : Nat) (mo_sizes : Nat) (mo_cells : Nat) (mo_torn : Int32) (mo_had : Nat) (sf : Nat → Int32) (c0 : Nat) (c3 : Nat) (c4 : Nat) (fi : Nat) (i : Int32) (e0 : sf 0 = nI c0) (h0 : c0 ≤ 8) (h02 : 2 ≤ c0) (e3 : sf 16 = nI c3) (h3 : c3 ≤ 8) (e4 : sf 25 = nI c4) (h4 : c4 ≤ 6) (hpe : mo_pe ≤ 4) (hm2 : 2 ≤ mo_hm) (hm5 : mo_hm ≤ 5) (ef : sf 14 = nI fi) (hfi : fi ≤ 99) (hsaw : ∀ i, i < c4 → vp_in (sf (26 + 3 * i)) 4) : MI l yX8_split wsX8_split ({ frames := 2, cells := 0, slots := 0, locals := 46 }) D k [.ref mo, .int i] [oq7 mo mo_st mo_at mo_isKept (nI mo_pe) (nI mo_hm) mo_draft (nI mo_dp) (nI mo_dh) mo_toldLines mo_highest mo_tape (nI mo_tl) (nI mo_ps) (nI mo_fr) mo_sort mo_value (nI mo_ft) mo_wrongAt mo_row mo_orderMany (nI mo_fo) mo_lightest mo_heaviest mo_before mo_justSum mo_toldSum mo_allWays mo_lanes mo_sizes mo_cells mo_torn mo_had, oqI k mo_st 132 (sf)] sz (fun (r : Int32) (u : Nat → Int32) => mSp c0 sf i r u) (fun (u : Nat → Int32) => [oq7 mo mo_st mo_at mo_isKept (nI mo_pe) (nI mo_hm) mo_draft (nI mo_dp) (nI mo_dh) mo_toldLines mo_highest mo_tape (nI mo_tl) (nI mo_ps) (nI mo_fr) mo_sort mo_value (nI mo_ft) mo_wrongAt mo_row mo_orderMany (nI mo_fo) mo_lightest mo_heaviest mo_before mo_justSum mo_toldSum mo_allWays mo_lanes mo_sizes mo_cells mo_torn mo_had, oqI k mo_st 132 (u)]) := by
  refine Met.ofW (cc := cX8_split) (maxL := 3) (ret := (some .int)) hpn_X8 rfl ?_
  intro p e s m args below meth c s₁ B hml hv
  obtain ⟨rfl, hsz, hP, hK, hD0, hN⟩ := hv
  have hx := B.exec
  have hb := B.bytes
  have hr := B.returns
  have hlocks := B.notSynchronized
  have hts := atoms_spec (ws := wsX8_split) B.pre
  have hown := findClass_of_methodNamed B.named
  have hown : s.vm.findClass RX8 = some m.cls := hown
  have hiX8 : ∀ w ∈ u_ws RX8 TX8 32, w ∈ wsX8_split := fun w9 hw9 => List.mem_cons_of_mem _ (igX8 w9 hw9)
  have fl7 := hts (.fieldLink RX8 7 "HalfScalesModel" "st" "[I") (List.mem_cons_of_mem _ (hs_inG 4 80 rfl rfl))
  subst hsz
  have hD := hD0.self (sz := s.heap.size)
  generalize hAe : va_A [oq7 mo mo_st mo_at mo_isKept (nI mo_pe) (nI mo_hm) mo_draft (nI mo_dp) (nI mo_dh) mo_toldLines mo_highest mo_tape (nI mo_tl) (nI mo_ps) (nI mo_fr) mo_sort mo_value (nI mo_ft) mo_wrongAt mo_row mo_orderMany (nI mo_fo) mo_lightest mo_heaviest mo_before mo_justSum mo_toldSum mo_allWays mo_lanes mo_sizes mo_cells mo_torn mo_had, oqI k mo_st 132 (sf)] s.heap.size = A at hD ⊢
  have hA : ∀ q : Nat, s.heap.size ≤ q → A q := fun q h => by rw [← hAe]; exact Or.inr h
  have hS : va_S A s.heap s.heap [] := va_S.rf
  have hl := lv_entry ([.ref mo, .int i]) (n := 3) (Nat.le_of_ble_eq_true rfl)
  rw [lg_entry_eq]
  generalize (lg_sl ([.ref mo, .int i]) ++ List.replicate (3 - (lg_sl ([.ref mo, .int i])).length) Slot.unset).toArray = ls at hl ⊢
  have hl : lv_has ls 3 [(0, .ref mo), (1, .int i)] := hl
  have hP : va_P D vwCl [oq7 mo mo_st mo_at mo_isKept (nI mo_pe) (nI mo_hm) mo_draft (nI mo_dp) (nI mo_dh) mo_toldLines mo_highest mo_tape (nI mo_tl) (nI mo_ps) (nI mo_fr) mo_sort mo_value (nI mo_ft) mo_wrongAt mo_row mo_orderMany (nI mo_fo) mo_lightest mo_heaviest mo_before mo_justSum mo_toldSum mo_allWays mo_lanes mo_sizes mo_cells mo_torn mo_had, oqI k mo_st 132 (sf)] s.heap := hP
  refine lv_aload_n hx hb dX8_split_0 rfl (lv_at hl 0 rfl) ?_
  refine lv_iload_n hx hb dX8_split_1 rfl (lv_at hl 1 rfl) ?_
  refine hs_ciM (va_runV (As := [.int i]) (rest := []) ⟨hx, hb, hml, hown, hts⟩ (gm_isCell l D k _ mo mo_st mo_at mo_isKept mo_pe mo_hm mo_draft mo_dp mo_dh mo_toldLines mo_highest mo_tape mo_tl mo_ps mo_fr mo_sort mo_value mo_ft mo_wrongAt mo_row mo_orderMany mo_fo mo_lightest mo_heaviest mo_before mo_justSum mo_toldSum mo_allWays mo_lanes mo_sizes mo_cells mo_torn mo_had sf c0 i e0 (by omega)) (cwV 1 hts gX8_split_X8_isCell rfl rfl rfl ⟨rfl, hq_X8_isCell⟩ ⟨Nat.le_of_ble_eq_true rfl, Nat.le_of_ble_eq_true rfl⟩) (hs_preV hK hN (hs_subP (w := [_, _]) hP [0, 1] rfl) (hD.sub (ws' := [_, _]) [0, 1] (hs_upnd rfl) rfl) (ci := 7) (q0 := 0) rfl rfl) rfl rfl hl.1 rfl (lv_room (Nat.le_of_ble_eq_true rfl)) dX8_split_2 ⟨Nat.le_of_ble_eq_true rfl, Nat.le_of_ble_eq_true rfl⟩) hP hD hS hA [false, false] [] [_, _] rfl [0, 1] rfl [0, 1] (fun u_3 => [_, _]) (fun _ => rfl) (hs_upnd rfl) [false, false] (fun u_3 => [_, _]) (fun _ => rfl) (fun r_1 u_3 H locs hw_2 hP hD hS => ?_)
  refine hs_topi (hsb (hslt i c0)) hw_2 ?_
  refine lv_if_ne (tgt := 10) hx hb dX8_split_5 rfl (fun c_4 => ?_) (fun c_4 => ?_)
  · obtain ⟨ji, hji, rfl⟩ := hslt_ex (hs_nb c_4)
    refine lv_aload_n hx hb dX8_split_10 rfl (lv_at hl 0 rfl) ?_
    refine va_get (D := D) (ci := 7) (v := .ref mo_st) (C := RX8) (T := TX8) (N := 32) hx hb hts hiX8 hown hK hP 0 rfl rfl 0 (Nat.le_of_ble_eq_true rfl) fl7 (fun _ h9 => h9) rfl dX8_split_11 ?_
    refine lv_iconst (v := 0) hx hb dX8_split_14 hki_0 ?_
    refine va_iald hx hb hK hP 1 0 rfl rfl (hs_in (by decide)) dX8_split_15 ?_
    refine hs_topi (nI c0) e0 ?_
    refine lv_bipush (v := 8) hx hb dX8_split_16 hkb_8 ?_
    refine lv_icmp_ne (tgt := 24) hx hb dX8_split_18 rfl (fun c_5 => ?_) (fun c_5 => ?_)
    · have nc_5 : ¬ c0 = 8 := fun hq9 => c_5 ((nI_eq (a := c0) (b := 8) (by omega) (by omega)).mpr hq9)
      refine lv_aload_n hx hb dX8_split_24 rfl (lv_at hl 0 rfl) ?_
      refine va_get (D := D) (ci := 7) (v := .ref mo_st) (C := RX8) (T := TX8) (N := 32) hx hb hts hiX8 hown hK hP 0 rfl rfl 0 (Nat.le_of_ble_eq_true rfl) fl7 (fun _ h9 => h9) rfl dX8_split_25 ?_
      refine lv_iconst (v := 0) hx hb dX8_split_28 hki_0 ?_
      refine va_iald hx hb hK hP 1 0 rfl rfl (hs_in (by decide)) dX8_split_29 ?_
      refine hs_topi (nI c0) e0 ?_
      refine lv_istore_n (lv' := [(2, .int (nI c0)), (0, .ref mo), (1, .int (nI ji))]) hx hb dX8_split_30 rfl hl (Nat.le_of_ble_eq_true rfl) rfl (fun ls hl => ?_)
      refine hs_while (σ := Nat × (Nat → Int32)) (fun x => ji ≤ x.1 ∧ x.1 ≤ c0 ∧ x.2 = shf sf (1 + x.1) (1 + c0)) (fun x => x.1) (fun x => [oq7 mo mo_st mo_at mo_isKept (nI mo_pe) (nI mo_hm) mo_draft (nI mo_dp) (nI mo_dh) mo_toldLines mo_highest mo_tape (nI mo_tl) (nI mo_ps) (nI mo_fr) mo_sort mo_value (nI mo_ft) mo_wrongAt mo_row mo_orderMany (nI mo_fo) mo_lightest mo_heaviest mo_before mo_justSum mo_toldSum mo_allWays mo_lanes mo_sizes mo_cells mo_torn mo_had, oqI k mo_st 132 ((x.2))]) (fun x => [(2, .int (nI (x.1))), (0, .ref mo), (1, .int (nI ji))]) ?_ (c0, sf) ?_ hP hD hS hl
      · intro x hI ih31 H locs ls hP hD hS hl
        obtain ⟨kx, g⟩ := x
        try dsimp only at hI
        have hP : va_P D vwCl [_, oqI k mo_st 132 (g)] H := hP
        have hD : va_D A [_, oqI k mo_st 132 (g)] := hD
        have hl : lv_has ls 3 [(2, .int (nI kx)), (0, .ref mo), (1, .int (nI ji))] := hl
        refine lv_iload_n hx hb dX8_split_31 rfl (lv_at hl 0 rfl) ?_
        refine lv_iload_n hx hb dX8_split_32 rfl (lv_at hl 2 rfl) ?_
        refine lv_icmp_le (tgt := 60) hx hb dX8_split_33 rfl (fun c_6 => ?_) (fun c_6 => ?_)
        · have nc_6 : kx ≤ ji := (nI_leI (a := kx) (b := ji) (by omega) (by omega)).mp c_6
          refine lv_aload_n hx hb dX8_split_60 rfl (lv_at hl 1 rfl) ?_
          refine va_get (D := D) (ci := 7) (v := .ref mo_st) (C := RX8) (T := TX8) (N := 32) hx hb hts hiX8 hown hK hP 0 rfl rfl 0 (Nat.le_of_ble_eq_true rfl) fl7 (fun _ h9 => h9) rfl dX8_split_61 ?_
          refine lv_iconst (v := 1) hx hb dX8_split_64 hki_1 ?_
          refine lv_iload_n hx hb dX8_split_65 rfl (lv_at hl 2 rfl) ?_
          refine lv_iadd hx hb dX8_split_66 ?_
          refine hs_topi (nI (1 + ji)) (nI_add (1) (ji)) ?_
          refine va_iald hx hb hK hP 1 0 rfl rfl (vp_in_nI (show (1 + ji) < 132 by omega) (by decide)) dX8_split_67 ?_
          refine hs_topi (sf (1 + ji)) (by rw [nI_clamp (by omega), hI.2.2]; exact shf_lo (by omega)) ?_
          refine lv_istore_n (lv' := [(2, .int (sf (1 + ji))), (0, .ref mo), (1, .int (nI ji))]) hx hb dX8_split_68 rfl hl (Nat.le_of_ble_eq_true rfl) rfl (fun ls hl => ?_)
          refine lv_aload_n hx hb dX8_split_69 rfl (lv_at hl 1 rfl) ?_
          refine va_get (D := D) (ci := 7) (v := .ref mo_st) (C := RX8) (T := TX8) (N := 32) hx hb hts hiX8 hown hK hP 0 rfl rfl 0 (Nat.le_of_ble_eq_true rfl) fl7 (fun _ h9 => h9) rfl dX8_split_70 ?_
          refine lv_iconst (v := 1) hx hb dX8_split_73 hki_1 ?_
          refine lv_iload_n hx hb dX8_split_74 rfl (lv_at hl 2 rfl) ?_
          refine lv_iadd hx hb dX8_split_75 ?_
          refine hs_topi (nI (1 + ji)) (nI_add (1) (ji)) ?_
          refine lv_iload_n hx hb dX8_split_76 rfl (lv_at hl 0 rfl) ?_
          refine lv_iload_n hx hb dX8_split_77 rfl (lv_at hl 0 rfl) ?_
          refine lv_iconst (v := 2) hx hb dX8_split_78 hki_2 ?_
          refine lv_idiv hx hb dX8_split_79 (by decide) ?_
          refine lv_isub hx hb dX8_split_80 ?_
          refine va_iast hx hb hK hP hD hS 1 0 rfl rfl (vp_in_nI (show (1 + ji) < 132 by omega) (by decide)) dX8_split_81 (fun H locs hP hD hS => ?_)
          have hP : va_P D vwCl [_, oqI k mo_st 132 (upd g ((nI (1 + ji)).toNatClampNeg) ((sf (1 + ji)) - ((sf (1 + ji)) / 2)))] H := hP
          have hD : va_D A [_, oqI k mo_st 132 (upd g ((nI (1 + ji)).toNatClampNeg) ((sf (1 + ji)) - ((sf (1 + ji)) / 2)))] := hD
          refine lv_aload_n hx hb dX8_split_82 rfl (lv_at hl 1 rfl) ?_
          refine va_get (D := D) (ci := 7) (v := .ref mo_st) (C := RX8) (T := TX8) (N := 32) hx hb hts hiX8 hown hK hP 0 rfl rfl 0 (Nat.le_of_ble_eq_true rfl) fl7 (fun _ h9 => h9) rfl dX8_split_83 ?_
          refine lv_iconst (v := 1) hx hb dX8_split_86 hki_1 ?_
          refine lv_iload_n hx hb dX8_split_87 rfl (lv_at hl 2 rfl) ?_
          refine lv_iadd hx hb dX8_split_88 ?_
          refine hs_topi (nI (1 + ji)) (nI_add (1) (ji)) ?_
          refine lv_iconst (v := 1) hx hb dX8_split_89 hki_1 ?_
          refine lv_iadd hx hb dX8_split_90 ?_
          refine hs_topi (nI ((1 + ji) + 1)) (nI_add ((1 + ji)) (1)) ?_
          refine lv_iload_n hx hb dX8_split_91 rfl (lv_at hl 0 rfl) ?_
          refine lv_iconst (v := 2) hx hb dX8_split_92 hki_2 ?_
          refine lv_idiv hx hb dX8_split_93 (by decide) ?_
          refine va_iast hx hb hK hP hD hS 1 0 rfl rfl (vp_in_nI (show ((1 + ji) + 1) < 132 by omega) (by decide)) dX8_split_94 (fun H locs hP hD hS => ?_)
          have hP : va_P D vwCl [_, oqI k mo_st 132 (upd (upd g ((nI (1 + ji)).toNatClampNeg) ((sf (1 + ji)) - ((sf (1 + ji)) / 2))) ((nI ((1 + ji) + 1)).toNatClampNeg) ((sf (1 + ji)) / 2))] H := hP
          have hD : va_D A [_, oqI k mo_st 132 (upd (upd g ((nI (1 + ji)).toNatClampNeg) ((sf (1 + ji)) - ((sf (1 + ji)) / 2))) ((nI ((1 + ji) + 1)).toNatClampNeg) ((sf (1 + ji)) / 2))] := hD
          refine lv_aload_n hx hb dX8_split_95 rfl (lv_at hl 1 rfl) ?_
          refine va_get (D := D) (ci := 7) (v := .ref mo_st) (C := RX8) (T := TX8) (N := 32) hx hb hts hiX8 hown hK hP 0 rfl rfl 0 (Nat.le_of_ble_eq_true rfl) fl7 (fun _ h9 => h9) rfl dX8_split_96 ?_
          refine lv_iconst (v := 0) hx hb dX8_split_99 hki_0 ?_
          refine lv_dup2_11 hx hb dX8_split_100 rfl rfl ?_
          refine va_iald hx hb hK hP 1 0 rfl rfl (hs_in (by decide)) dX8_split_101 ?_
          refine hs_topi (nI c0) ((hs_uc (q := 0) (by omega) (by omega)).trans ((hs_uc (q := 0) (by omega) (by omega)).trans ((congrFun hI.2.2 0).trans ((shf_lo (by omega)).trans e0)))) ?_
          refine lv_iconst (v := 1) hx hb dX8_split_102 hki_1 ?_
          refine lv_iadd hx hb dX8_split_103 ?_
          refine hs_topi (nI (c0 + 1)) (nI_add (c0) (1)) ?_
          refine va_iast hx hb hK hP hD hS 1 0 rfl rfl (hs_in (by decide)) dX8_split_104 (fun H locs hP hD hS => ?_)
          have hP : va_P D vwCl [_, oqI k mo_st 132 (upd (upd (upd g ((nI (1 + ji)).toNatClampNeg) ((sf (1 + ji)) - ((sf (1 + ji)) / 2))) ((nI ((1 + ji) + 1)).toNatClampNeg) ((sf (1 + ji)) / 2)) 0 (nI (c0 + 1)))] H := hP
          have hD : va_D A [_, oqI k mo_st 132 (upd (upd (upd g ((nI (1 + ji)).toNatClampNeg) ((sf (1 + ji)) - ((sf (1 + ji)) / 2))) ((nI ((1 + ji) + 1)).toNatClampNeg) ((sf (1 + ji)) / 2)) 0 (nI (c0 + 1)))] := hD
          refine lv_aload_n hx hb dX8_split_105 rfl (lv_at hl 1 rfl) ?_
          refine va_get (D := D) (ci := 7) (v := .ref mo_st) (C := RX8) (T := TX8) (N := 32) hx hb hts hiX8 hown hK hP 0 rfl rfl 0 (Nat.le_of_ble_eq_true rfl) fl7 (fun _ h9 => h9) rfl dX8_split_106 ?_
          refine lv_iconst (v := 0) hx hb dX8_split_109 hki_0 ?_
          refine va_iald hx hb hK hP 1 0 rfl rfl (hs_in (by decide)) dX8_split_110 ?_
          refine hs_topi (nI (c0 + 1)) (by first | rfl | decide +kernel) ?_
          exact hs_iret hx hb hr hlocks hK hP hD hS (upd (upd (upd g ((nI (1 + ji)).toNatClampNeg) ((sf (1 + ji)) - ((sf (1 + ji)) / 2))) ((nI ((1 + ji) + 1)).toNatClampNeg) ((sf (1 + ji)) / 2)) 0 (nI (c0 + 1))) [0, 1] rfl (hs_upnd rfl) dX8_split_111 (Or.inr (Or.inr ⟨hs_nb c_4, by omega, rfl, (by (try dsimp only); rw [nI_clamp (n := ji) (by omega), nI_clamp (by omega), nI_clamp (by omega), hI.2.2, show kx = ji by omega]; rfl)⟩))
        · have nc_6 : ¬ kx ≤ ji := fun hq9 => c_6 ((nI_leI (a := kx) (b := ji) (by omega) (by omega)).mpr hq9)
          refine lv_aload_n hx hb dX8_split_36 rfl (lv_at hl 1 rfl) ?_
          refine va_get (D := D) (ci := 7) (v := .ref mo_st) (C := RX8) (T := TX8) (N := 32) hx hb hts hiX8 hown hK hP 0 rfl rfl 0 (Nat.le_of_ble_eq_true rfl) fl7 (fun _ h9 => h9) rfl dX8_split_37 ?_
          refine lv_iconst (v := 1) hx hb dX8_split_40 hki_1 ?_
          refine lv_iload_n hx hb dX8_split_41 rfl (lv_at hl 0 rfl) ?_
          refine lv_iadd hx hb dX8_split_42 ?_
          refine hs_topi (nI (1 + kx)) (nI_add (1) (kx)) ?_
          refine lv_aload_n hx hb dX8_split_43 rfl (lv_at hl 1 rfl) ?_
          refine va_get (D := D) (ci := 7) (v := .ref mo_st) (C := RX8) (T := TX8) (N := 32) hx hb hts hiX8 hown hK hP 0 rfl rfl 0 (Nat.le_of_ble_eq_true rfl) fl7 (fun _ h9 => h9) rfl dX8_split_44 ?_
          refine lv_iconst (v := 1) hx hb dX8_split_47 hki_1 ?_
          refine lv_iload_n hx hb dX8_split_48 rfl (lv_at hl 0 rfl) ?_
          refine lv_iadd hx hb dX8_split_49 ?_
          refine hs_topi (nI (1 + kx)) (nI_add (1) (kx)) ?_
          refine lv_iconst (v := 1) hx hb dX8_split_50 hki_1 ?_
          refine lv_isub hx hb dX8_split_51 ?_
          refine hs_topi (nI ((1 + kx) - 1)) (pk_sub (a := (1 + kx)) (b := 1) (by omega)) ?_
          refine va_iald hx hb hK hP 1 0 rfl rfl (vp_in_nI (show ((1 + kx) - 1) < 132 by omega) (by decide)) dX8_split_52 ?_
          refine va_iast hx hb hK hP hD hS 1 0 rfl rfl (vp_in_nI (show (1 + kx) < 132 by omega) (by decide)) dX8_split_53 (fun H locs hP hD hS => ?_)
          have hP : va_P D vwCl [_, oqI k mo_st 132 (upd g ((nI (1 + kx)).toNatClampNeg) (g (nI ((1 + kx) - 1)).toNatClampNeg))] H := hP
          have hD : va_D A [_, oqI k mo_st 132 (upd g ((nI (1 + kx)).toNatClampNeg) (g (nI ((1 + kx) - 1)).toNatClampNeg))] := hD
          refine lv_iinc (v := nI (kx - 1)) (lv' := [(2, .int (nI (kx - 1))), (0, .ref mo), (1, .int (nI ji))]) hx hb dX8_split_54 hl (k := 0) rfl (hs_m1 (n := kx) (by omega)) (Nat.le_of_ble_eq_true rfl) rfl (fun ls hl => ?_)
          refine lv_goto (tgt := 31) hx hb dX8_split_57 rfl ?_
          exact ih31 (kx - 1, upd g ((nI (1 + kx)).toNatClampNeg) (g (nI ((1 + kx) - 1)).toNatClampNeg)) (by (try dsimp only); exact ⟨by omega, by omega, (by have h9 := shf_s hI.2.2 (by omega) (by omega) (by omega); rw [show 1 + kx - 1 = 1 + (kx - 1) by omega] at h9 ⊢; exact h9)⟩) (by (try dsimp only); omega) _ _ _ hP hD hS (lv_sub hl [0, 1, 2] rfl)
      · (try dsimp only); exact ⟨by omega, Nat.le_refl _, shf_0.symm⟩
    · have nc_5 : c0 = 8 := (nI_eq (a := c0) (b := 8) (by omega) (by omega)).mp c_5
      refine lv_bipush (v := (-3)) hx hb dX8_split_21 hkb_m3 ?_
      exact hs_iret hx hb hr hlocks hK hP hD hS sf [0, 1] rfl (hs_upnd rfl) dX8_split_23 (Or.inr (Or.inl ⟨hs_nb c_4, by omega, rfl, rfl⟩))
  · refine lv_iconst (v := (-1)) hx hb dX8_split_8 hki_m1 ?_
    exact hs_iret hx hb hr hlocks hK hP hD hS sf [0, 1] rfl (hs_upnd rfl) dX8_split_9 (Or.inl ⟨hs_n0 c_4, rfl, rfl⟩)

set_option maxHeartbeats 4000000 in
set_option maxRecDepth 100000 in
theorem gqf_join (l : Launch) (D : va_G) (k : Nat → ClassId) (sz : Nat) (mo : Nat) (mo_st : Nat) (mo_at : Nat) (mo_isKept : Nat) (mo_pe : Nat) (mo_hm : Nat) (mo_draft : Nat) (mo_dp : Nat) (mo_dh : Nat) (mo_toldLines : Int32) (mo_highest : Int32) (mo_tape : Nat) (mo_tl : Nat) (mo_ps : Nat) (mo_fr : Nat) (mo_sort : Int32) (mo_value : Int32) (mo_ft : Nat) (mo_wrongAt : Int32) (mo_row : Nat) (mo_orderMany : Int32) (mo_fo : Nat) (mo_lightest : Int32) (mo_heaviest : Int32) (mo_before : Nat) (mo_justSum : Int64) (mo_toldSum : Int64) (mo_allWays : Int64) (mo_lanes : Nat) (mo_sizes : Nat) (mo_cells : Nat) (mo_torn : Int32) (mo_had : Nat) (sf : Nat → Int32) (c0 : Nat) (c3 : Nat) (c4 : Nat) (fi : Nat) (i : Int32) (e0 : sf 0 = nI c0) (h0 : c0 ≤ 8) (h02 : 2 ≤ c0) (e3 : sf 16 = nI c3) (h3 : c3 ≤ 8) (e4 : sf 25 = nI c4) (h4 : c4 ≤ 6) (hpe : mo_pe ≤ 4) (hm2 : 2 ≤ mo_hm) (hm5 : mo_hm ≤ 5) (ef : sf 14 = nI fi) (hfi : fi ≤ 99) (hsaw : ∀ i, i < c4 → vp_in (sf (26 + 3 * i)) 4) : MI l yX8_join wsX8_join ({ frames := 1, cells := 0, slots := 0, locals := 25 }) D k [.ref mo, .int i] [oq7 mo mo_st mo_at mo_isKept (nI mo_pe) (nI mo_hm) mo_draft (nI mo_dp) (nI mo_dh) mo_toldLines mo_highest mo_tape (nI mo_tl) (nI mo_ps) (nI mo_fr) mo_sort mo_value (nI mo_ft) mo_wrongAt mo_row mo_orderMany (nI mo_fo) mo_lightest mo_heaviest mo_before mo_justSum mo_toldSum mo_allWays mo_lanes mo_sizes mo_cells mo_torn mo_had, oqI k mo_st 132 (sf)] sz (fun (r : Int32) (u : Nat → Int32) => mJn c0 sf i r u) (fun (u : Nat → Int32) => [oq7 mo mo_st mo_at mo_isKept (nI mo_pe) (nI mo_hm) mo_draft (nI mo_dp) (nI mo_dh) mo_toldLines mo_highest mo_tape (nI mo_tl) (nI mo_ps) (nI mo_fr) mo_sort mo_value (nI mo_ft) mo_wrongAt mo_row mo_orderMany (nI mo_fo) mo_lightest mo_heaviest mo_before mo_justSum mo_toldSum mo_allWays mo_lanes mo_sizes mo_cells mo_torn mo_had, oqI k mo_st 132 (u)]) := by
  refine Met.ofW (cc := cX8_join) (maxL := 4) (ret := (some .int)) hpn_X8 rfl ?_
  intro p e s m args below meth c s₁ B hml hv
  obtain ⟨rfl, hsz, hP, hK, hD0, hN⟩ := hv
  have hx := B.exec
  have hb := B.bytes
  have hr := B.returns
  have hlocks := B.notSynchronized
  have hts := atoms_spec (ws := wsX8_join) B.pre
  have hown := findClass_of_methodNamed B.named
  have hown : s.vm.findClass RX8 = some m.cls := hown
  have hiX8 : ∀ w ∈ u_ws RX8 TX8 32, w ∈ wsX8_join := fun w9 hw9 => List.mem_cons_of_mem _ (igX8 w9 hw9)
  have fl7 := hts (.fieldLink RX8 7 "HalfScalesModel" "st" "[I") (List.mem_cons_of_mem _ (hs_inG 4 80 rfl rfl))
  subst hsz
  have hD := hD0.self (sz := s.heap.size)
  generalize hAe : va_A [oq7 mo mo_st mo_at mo_isKept (nI mo_pe) (nI mo_hm) mo_draft (nI mo_dp) (nI mo_dh) mo_toldLines mo_highest mo_tape (nI mo_tl) (nI mo_ps) (nI mo_fr) mo_sort mo_value (nI mo_ft) mo_wrongAt mo_row mo_orderMany (nI mo_fo) mo_lightest mo_heaviest mo_before mo_justSum mo_toldSum mo_allWays mo_lanes mo_sizes mo_cells mo_torn mo_had, oqI k mo_st 132 (sf)] s.heap.size = A at hD ⊢
  have hA : ∀ q : Nat, s.heap.size ≤ q → A q := fun q h => by rw [← hAe]; exact Or.inr h
  have hS : va_S A s.heap s.heap [] := va_S.rf
  have hl := lv_entry ([.ref mo, .int i]) (n := 4) (Nat.le_of_ble_eq_true rfl)
  rw [lg_entry_eq]
  generalize (lg_sl ([.ref mo, .int i]) ++ List.replicate (4 - (lg_sl ([.ref mo, .int i])).length) Slot.unset).toArray = ls at hl ⊢
  have hl : lv_has ls 4 [(0, .ref mo), (1, .int i)] := hl
  have hP : va_P D vwCl [oq7 mo mo_st mo_at mo_isKept (nI mo_pe) (nI mo_hm) mo_draft (nI mo_dp) (nI mo_dh) mo_toldLines mo_highest mo_tape (nI mo_tl) (nI mo_ps) (nI mo_fr) mo_sort mo_value (nI mo_ft) mo_wrongAt mo_row mo_orderMany (nI mo_fo) mo_lightest mo_heaviest mo_before mo_justSum mo_toldSum mo_allWays mo_lanes mo_sizes mo_cells mo_torn mo_had, oqI k mo_st 132 (sf)] s.heap := hP
  refine lv_iload_n hx hb dX8_join_0 rfl (lv_at hl 1 rfl) ?_
  refine lv_i2l hx hb dX8_join_1 rfl ?_
  refine lv_lconst (v := 0) hx hb dX8_join_2 (by decide) ?_
  refine lv_aload_n hx hb dX8_join_3 rfl (lv_at hl 0 rfl) ?_
  refine va_get (D := D) (ci := 7) (v := .ref mo_st) (C := RX8) (T := TX8) (N := 32) hx hb hts hiX8 hown hK hP 0 rfl rfl 0 (Nat.le_of_ble_eq_true rfl) fl7 (fun _ h9 => h9) rfl dX8_join_4 ?_
  refine lv_iconst (v := 0) hx hb dX8_join_7 hki_0 ?_
  refine va_iald hx hb hK hP 1 0 rfl rfl (hs_in (by decide)) dX8_join_8 ?_
  refine hs_topi (nI c0) e0 ?_
  refine lv_iconst (v := 2) hx hb dX8_join_9 hki_2 ?_
  refine lv_isub hx hb dX8_join_10 ?_
  refine hs_topi (nI (c0 - 2)) (pk_sub (a := c0) (b := 2) (by omega)) ?_
  refine lv_i2l hx hb dX8_join_11 rfl ?_
  refine hs_pi (va_runS (As := [.long (((i) : Int32).toInt64), .long 0, .long (((nI (c0 - 2)) : Int32).toInt64)]) (rest := []) ⟨hx, hb, hml, hown, hts⟩ (gm_in l D k _ i 0 (nI (c0 - 2))) (va_cwS 3 hts gX8_join_X8_in rfl rfl rfl hq_X8_in ⟨Nat.le_of_ble_eq_true rfl, Nat.le_of_ble_eq_true rfl⟩) (hs_preS hK hN (hs_subP (w := []) hP [] rfl) (hD.sub (ws' := []) [] rfl rfl)) rfl rfl hl.1 rfl (lv_room (Nat.le_of_ble_eq_true rfl)) dX8_join_12 ⟨Nat.le_of_ble_eq_true rfl, Nat.le_of_ble_eq_true rfl⟩) hP hD hS hA (fun r_1 u_3 H locs hw_2 hP hS => ?_)
  refine hs_topi (hsb (hsin i 0 (nI (c0 - 2)))) hw_2 ?_
  refine lv_if_ne (tgt := 20) hx hb dX8_join_15 rfl (fun c_4 => ?_) (fun c_4 => ?_)
  · obtain ⟨ji, hji, hjib, rfl⟩ := hs_rng (lo := 0) (hi := (c0 - 2)) (by omega) (by omega) (hs_nb c_4)
    refine lv_aload_n hx hb dX8_join_20 rfl (lv_at hl 0 rfl) ?_
    refine va_get (D := D) (ci := 7) (v := .ref mo_st) (C := RX8) (T := TX8) (N := 32) hx hb hts hiX8 hown hK hP 0 rfl rfl 0 (Nat.le_of_ble_eq_true rfl) fl7 (fun _ h9 => h9) rfl dX8_join_21 ?_
    refine lv_iconst (v := 0) hx hb dX8_join_24 hki_0 ?_
    refine va_iald hx hb hK hP 1 0 rfl rfl (hs_in (by decide)) dX8_join_25 ?_
    refine hs_topi (nI c0) e0 ?_
    refine lv_iconst (v := 2) hx hb dX8_join_26 hki_2 ?_
    refine lv_icmp_ne (tgt := 33) hx hb dX8_join_27 rfl (fun c_5 => ?_) (fun c_5 => ?_)
    · have nc_5 : ¬ c0 = 2 := fun hq9 => c_5 ((nI_eq (a := c0) (b := 2) (by omega) (by omega)).mpr hq9)
      refine lv_aload_n hx hb dX8_join_33 rfl (lv_at hl 0 rfl) ?_
      refine va_get (D := D) (ci := 7) (v := .ref mo_st) (C := RX8) (T := TX8) (N := 32) hx hb hts hiX8 hown hK hP 0 rfl rfl 0 (Nat.le_of_ble_eq_true rfl) fl7 (fun _ h9 => h9) rfl dX8_join_34 ?_
      refine lv_iconst (v := 1) hx hb dX8_join_37 hki_1 ?_
      refine lv_iload_n hx hb dX8_join_38 rfl (lv_at hl 1 rfl) ?_
      refine lv_iadd hx hb dX8_join_39 ?_
      refine hs_topi (nI (1 + ji)) (nI_add (1) (ji)) ?_
      refine va_iald hx hb hK hP 1 0 rfl rfl (vp_in_nI (show (1 + ji) < 132 by omega) (by decide)) dX8_join_40 ?_
      refine hs_topi (sf (1 + ji)) (by rw [nI_clamp (by omega)]) ?_
      refine lv_aload_n hx hb dX8_join_41 rfl (lv_at hl 0 rfl) ?_
      refine va_get (D := D) (ci := 7) (v := .ref mo_st) (C := RX8) (T := TX8) (N := 32) hx hb hts hiX8 hown hK hP 0 rfl rfl 0 (Nat.le_of_ble_eq_true rfl) fl7 (fun _ h9 => h9) rfl dX8_join_42 ?_
      refine lv_iconst (v := 1) hx hb dX8_join_45 hki_1 ?_
      refine lv_iload_n hx hb dX8_join_46 rfl (lv_at hl 1 rfl) ?_
      refine lv_iadd hx hb dX8_join_47 ?_
      refine hs_topi (nI (1 + ji)) (nI_add (1) (ji)) ?_
      refine lv_iconst (v := 1) hx hb dX8_join_48 hki_1 ?_
      refine lv_iadd hx hb dX8_join_49 ?_
      refine hs_topi (nI ((1 + ji) + 1)) (nI_add ((1 + ji)) (1)) ?_
      refine va_iald hx hb hK hP 1 0 rfl rfl (vp_in_nI (show ((1 + ji) + 1) < 132 by omega) (by decide)) dX8_join_50 ?_
      refine hs_topi (sf (1 + ji + 1)) (by rw [nI_clamp (by omega)]) ?_
      refine lv_iadd hx hb dX8_join_51 ?_
      refine lv_istore_n (lv' := [(2, .int ((sf (1 + ji)) + (sf (1 + ji + 1)))), (0, .ref mo), (1, .int (nI ji))]) hx hb dX8_join_52 rfl hl (Nat.le_of_ble_eq_true rfl) rfl (fun ls hl => ?_)
      refine lv_aload_n hx hb dX8_join_53 rfl (lv_at hl 1 rfl) ?_
      refine va_get (D := D) (ci := 7) (v := .ref mo_st) (C := RX8) (T := TX8) (N := 32) hx hb hts hiX8 hown hK hP 0 rfl rfl 0 (Nat.le_of_ble_eq_true rfl) fl7 (fun _ h9 => h9) rfl dX8_join_54 ?_
      refine lv_iconst (v := 1) hx hb dX8_join_57 hki_1 ?_
      refine lv_iload_n hx hb dX8_join_58 rfl (lv_at hl 2 rfl) ?_
      refine lv_iadd hx hb dX8_join_59 ?_
      refine hs_topi (nI (1 + ji)) (nI_add (1) (ji)) ?_
      refine lv_iload_n hx hb dX8_join_60 rfl (lv_at hl 0 rfl) ?_
      refine lv_bipush (v := 9) hx hb dX8_join_61 hkb_9 ?_
      refine lv_icmp_le (tgt := 71) hx hb dX8_join_63 rfl (fun c_6 => ?_) (fun c_6 => ?_)
      · refine lv_iload_n hx hb dX8_join_71 rfl (lv_at hl 0 rfl) ?_
        refine va_iast hx hb hK hP hD hS 1 0 rfl rfl (vp_in_nI (show (1 + ji) < 132 by omega) (by decide)) dX8_join_72 (fun H locs hP hD hS => ?_)
        have hE : upd sf ((nI (1 + ji)).toNatClampNeg) ((sf (1 + ji)) + (sf (1 + ji + 1))) = upd sf (1 + ji) (jmax (sf (1 + ji)) (sf (1 + ji + 1))) := (by rw [nI_clamp (by omega), jmax, if_neg (Int32.not_lt.mpr c_6)])
        have hP : va_P D vwCl [oq7 mo mo_st mo_at mo_isKept (nI mo_pe) (nI mo_hm) mo_draft (nI mo_dp) (nI mo_dh) mo_toldLines mo_highest mo_tape (nI mo_tl) (nI mo_ps) (nI mo_fr) mo_sort mo_value (nI mo_ft) mo_wrongAt mo_row mo_orderMany (nI mo_fo) mo_lightest mo_heaviest mo_before mo_justSum mo_toldSum mo_allWays mo_lanes mo_sizes mo_cells mo_torn mo_had, oqI k mo_st 132 (upd sf ((nI (1 + ji)).toNatClampNeg) ((sf (1 + ji)) + (sf (1 + ji + 1))))] H := hP
        have hD : va_D A [oq7 mo mo_st mo_at mo_isKept (nI mo_pe) (nI mo_hm) mo_draft (nI mo_dp) (nI mo_dh) mo_toldLines mo_highest mo_tape (nI mo_tl) (nI mo_ps) (nI mo_fr) mo_sort mo_value (nI mo_ft) mo_wrongAt mo_row mo_orderMany (nI mo_fo) mo_lightest mo_heaviest mo_before mo_justSum mo_toldSum mo_allWays mo_lanes mo_sizes mo_cells mo_torn mo_had, oqI k mo_st 132 (upd sf ((nI (1 + ji)).toNatClampNeg) ((sf (1 + ji)) + (sf (1 + ji + 1))))] := hD
        rw [hE] at hP hD
        refine lv_aload_n hx hb dX8_join_73 rfl (lv_at hl 1 rfl) ?_
        refine va_get (D := D) (ci := 7) (v := .ref mo_st) (C := RX8) (T := TX8) (N := 32) hx hb hts hiX8 hown hK hP 0 rfl rfl 0 (Nat.le_of_ble_eq_true rfl) fl7 (fun _ h9 => h9) rfl dX8_join_74 ?_
        refine lv_iconst (v := 0) hx hb dX8_join_77 hki_0 ?_
        refine lv_dup2_11 hx hb dX8_join_78 rfl rfl ?_
        refine va_iald hx hb hK hP 1 0 rfl rfl (hs_in (by decide)) dX8_join_79 ?_
        refine hs_topi (nI c0) ((hs_un (q := 0) (by omega)).trans e0) ?_
        refine lv_iconst (v := 1) hx hb dX8_join_80 hki_1 ?_
        refine lv_isub hx hb dX8_join_81 ?_
        refine hs_topi (nI (c0 - 1)) (pk_sub (a := c0) (b := 1) (by omega)) ?_
        refine va_iast hx hb hK hP hD hS 1 0 rfl rfl (hs_in (by decide)) dX8_join_82 (fun H locs hP hD hS => ?_)
        have hP : va_P D vwCl [_, oqI k mo_st 132 (upd (upd sf (1 + ji) (jmax (sf (1 + ji)) (sf (1 + ji + 1)))) 0 (nI (c0 - 1)))] H := hP
        have hD : va_D A [_, oqI k mo_st 132 (upd (upd sf (1 + ji) (jmax (sf (1 + ji)) (sf (1 + ji + 1)))) 0 (nI (c0 - 1)))] := hD
        refine lv_iload_n hx hb dX8_join_83 rfl (lv_at hl 2 rfl) ?_
        refine lv_iconst (v := 1) hx hb dX8_join_84 hki_1 ?_
        refine lv_iadd hx hb dX8_join_85 ?_
        refine hs_topi (nI (ji + 1)) (nI_add (ji) (1)) ?_
        refine lv_istore_n (lv' := [(3, .int (nI (ji + 1))), (2, .int ((sf (1 + ji)) + (sf (1 + ji + 1)))), (0, .ref mo), (1, .int (nI ji))]) hx hb dX8_join_86 rfl hl (Nat.le_of_ble_eq_true rfl) rfl (fun ls hl => ?_)
        refine hs_while (σ := Nat × (Nat → Int32)) (fun x => ji + 1 ≤ x.1 ∧ x.1 ≤ c0 - 1 ∧ x.2 = shl (upd (upd sf (1 + ji) (jmax (sf (1 + ji)) (sf (1 + ji + 1)))) 0 (nI (c0 - 1))) (1 + (ji + 1)) (1 + x.1)) (fun x => c0 - x.1) (fun x => [oq7 mo mo_st mo_at mo_isKept (nI mo_pe) (nI mo_hm) mo_draft (nI mo_dp) (nI mo_dh) mo_toldLines mo_highest mo_tape (nI mo_tl) (nI mo_ps) (nI mo_fr) mo_sort mo_value (nI mo_ft) mo_wrongAt mo_row mo_orderMany (nI mo_fo) mo_lightest mo_heaviest mo_before mo_justSum mo_toldSum mo_allWays mo_lanes mo_sizes mo_cells mo_torn mo_had, oqI k mo_st 132 ((x.2))]) (fun x => [(3, .int (nI (x.1))), (2, .int ((sf (1 + ji)) + (sf (1 + ji + 1)))), (0, .ref mo), (1, .int (nI ji))]) ?_ (ji + 1, upd (upd sf (1 + ji) (jmax (sf (1 + ji)) (sf (1 + ji + 1)))) 0 (nI (c0 - 1))) ?_ hP hD hS hl
        · intro x hI ih87 H locs ls hP hD hS hl
          obtain ⟨kx, g⟩ := x
          try dsimp only at hI
          have hP : va_P D vwCl [_, oqI k mo_st 132 (g)] H := hP
          have hD : va_D A [_, oqI k mo_st 132 (g)] := hD
          have hl : lv_has ls 4 [(3, .int (nI kx)), (2, .int ((sf (1 + ji)) + (sf (1 + ji + 1)))), (0, .ref mo), (1, .int (nI ji))] := hl
          refine lv_iload_n hx hb dX8_join_87 rfl (lv_at hl 0 rfl) ?_
          refine lv_aload_n hx hb dX8_join_88 rfl (lv_at hl 2 rfl) ?_
          refine va_get (D := D) (ci := 7) (v := .ref mo_st) (C := RX8) (T := TX8) (N := 32) hx hb hts hiX8 hown hK hP 0 rfl rfl 0 (Nat.le_of_ble_eq_true rfl) fl7 (fun _ h9 => h9) rfl dX8_join_89 ?_
          refine lv_iconst (v := 0) hx hb dX8_join_92 hki_0 ?_
          refine va_iald hx hb hK hP 1 0 rfl rfl (hs_in (by decide)) dX8_join_93 ?_
          refine hs_topi (nI (c0 - 1)) ((congrFun hI.2.2 0).trans ((shl_out (Or.inl (by omega))).trans (hs_uq rfl))) ?_
          refine lv_icmp_ge (tgt := 121) hx hb dX8_join_94 rfl (fun c_7 => ?_) (fun c_7 => ?_)
          · have nc_7 : (c0 - 1) ≤ kx := (nI_leI (a := (c0 - 1)) (b := kx) (by omega) (by omega)).mp c_7
            refine lv_aload_n hx hb dX8_join_121 rfl (lv_at hl 2 rfl) ?_
            refine va_get (D := D) (ci := 7) (v := .ref mo_st) (C := RX8) (T := TX8) (N := 32) hx hb hts hiX8 hown hK hP 0 rfl rfl 0 (Nat.le_of_ble_eq_true rfl) fl7 (fun _ h9 => h9) rfl dX8_join_122 ?_
            refine lv_iconst (v := 0) hx hb dX8_join_125 hki_0 ?_
            refine va_iald hx hb hK hP 1 0 rfl rfl (hs_in (by decide)) dX8_join_126 ?_
            refine hs_topi (nI (c0 - 1)) ((congrFun hI.2.2 0).trans ((shl_out (Or.inl (by omega))).trans (hs_uq rfl))) ?_
            exact hs_iret hx hb hr hlocks hK hP hD hS g [0, 1] rfl (hs_upnd rfl) dX8_join_127 (Or.inr ⟨ji, by omega, rfl, Or.inr ⟨by omega, rfl, (by (try dsimp only); rw [hI.2.2, show kx = c0 - 1 by omega]; rfl)⟩⟩)
          · have nc_7 : ¬ (c0 - 1) ≤ kx := fun hq9 => c_7 ((nI_leI (a := (c0 - 1)) (b := kx) (by omega) (by omega)).mpr hq9)
            refine lv_aload_n hx hb dX8_join_97 rfl (lv_at hl 2 rfl) ?_
            refine va_get (D := D) (ci := 7) (v := .ref mo_st) (C := RX8) (T := TX8) (N := 32) hx hb hts hiX8 hown hK hP 0 rfl rfl 0 (Nat.le_of_ble_eq_true rfl) fl7 (fun _ h9 => h9) rfl dX8_join_98 ?_
            refine lv_iconst (v := 1) hx hb dX8_join_101 hki_1 ?_
            refine lv_iload_n hx hb dX8_join_102 rfl (lv_at hl 0 rfl) ?_
            refine lv_iadd hx hb dX8_join_103 ?_
            refine hs_topi (nI (1 + kx)) (nI_add (1) (kx)) ?_
            refine lv_aload_n hx hb dX8_join_104 rfl (lv_at hl 2 rfl) ?_
            refine va_get (D := D) (ci := 7) (v := .ref mo_st) (C := RX8) (T := TX8) (N := 32) hx hb hts hiX8 hown hK hP 0 rfl rfl 0 (Nat.le_of_ble_eq_true rfl) fl7 (fun _ h9 => h9) rfl dX8_join_105 ?_
            refine lv_iconst (v := 1) hx hb dX8_join_108 hki_1 ?_
            refine lv_iload_n hx hb dX8_join_109 rfl (lv_at hl 0 rfl) ?_
            refine lv_iadd hx hb dX8_join_110 ?_
            refine hs_topi (nI (1 + kx)) (nI_add (1) (kx)) ?_
            refine lv_iconst (v := 1) hx hb dX8_join_111 hki_1 ?_
            refine lv_iadd hx hb dX8_join_112 ?_
            refine hs_topi (nI ((1 + kx) + 1)) (nI_add ((1 + kx)) (1)) ?_
            refine va_iald hx hb hK hP 1 0 rfl rfl (vp_in_nI (show ((1 + kx) + 1) < 132 by omega) (by decide)) dX8_join_113 ?_
            refine va_iast hx hb hK hP hD hS 1 0 rfl rfl (vp_in_nI (show (1 + kx) < 132 by omega) (by decide)) dX8_join_114 (fun H locs hP hD hS => ?_)
            have hP : va_P D vwCl [_, oqI k mo_st 132 (upd g ((nI (1 + kx)).toNatClampNeg) (g (nI ((1 + kx) + 1)).toNatClampNeg))] H := hP
            have hD : va_D A [_, oqI k mo_st 132 (upd g ((nI (1 + kx)).toNatClampNeg) (g (nI ((1 + kx) + 1)).toNatClampNeg))] := hD
            refine lv_iinc (v := nI (kx + 1)) (lv' := [(3, .int (nI (kx + 1))), (2, .int ((sf (1 + ji)) + (sf (1 + ji + 1)))), (0, .ref mo), (1, .int (nI ji))]) hx hb dX8_join_115 hl (k := 0) rfl (nI_add (kx) 1) (Nat.le_of_ble_eq_true rfl) rfl (fun ls hl => ?_)
            refine lv_goto (tgt := 87) hx hb dX8_join_118 rfl ?_
            exact ih87 (kx + 1, upd g ((nI (1 + kx)).toNatClampNeg) (g (nI ((1 + kx) + 1)).toNatClampNeg)) (by (try dsimp only); exact ⟨by omega, by omega, (by have h9 := shl_s hI.2.2 (by omega) (by omega); rw [show 1 + kx + 1 = 1 + (kx + 1) by omega] at h9 ⊢; exact h9)⟩) (by (try dsimp only); omega) _ _ _ hP hD hS (lv_sub hl [0, 1, 2, 3] rfl)
        · (try dsimp only); exact ⟨by omega, by omega, shl_0.symm⟩
      · refine lv_bipush (v := 9) hx hb dX8_join_66 hkb_9 ?_
        refine lv_goto (tgt := 72) hx hb dX8_join_68 rfl ?_
        refine va_iast hx hb hK hP hD hS 1 0 rfl rfl (vp_in_nI (show (1 + ji) < 132 by omega) (by decide)) dX8_join_72 (fun H locs hP hD hS => ?_)
        have hE : upd sf ((nI (1 + ji)).toNatClampNeg) 9 = upd sf (1 + ji) (jmax (sf (1 + ji)) (sf (1 + ji + 1))) := (by rw [nI_clamp (by omega), jmax, if_pos (Int32.not_le.mp c_6)])
        have hP : va_P D vwCl [_, oqI k mo_st 132 (upd sf ((nI (1 + ji)).toNatClampNeg) 9)] H := hP
        have hD : va_D A [_, oqI k mo_st 132 (upd sf ((nI (1 + ji)).toNatClampNeg) 9)] := hD
        rw [hE] at hP hD
        refine lv_aload_n hx hb dX8_join_73 rfl (lv_at hl 1 rfl) ?_
        refine va_get (D := D) (ci := 7) (v := .ref mo_st) (C := RX8) (T := TX8) (N := 32) hx hb hts hiX8 hown hK hP 0 rfl rfl 0 (Nat.le_of_ble_eq_true rfl) fl7 (fun _ h9 => h9) rfl dX8_join_74 ?_
        refine lv_iconst (v := 0) hx hb dX8_join_77 hki_0 ?_
        refine lv_dup2_11 hx hb dX8_join_78 rfl rfl ?_
        refine va_iald hx hb hK hP 1 0 rfl rfl (hs_in (by decide)) dX8_join_79 ?_
        refine hs_topi (nI c0) ((hs_un (q := 0) (by omega)).trans e0) ?_
        refine lv_iconst (v := 1) hx hb dX8_join_80 hki_1 ?_
        refine lv_isub hx hb dX8_join_81 ?_
        refine hs_topi (nI (c0 - 1)) (pk_sub (a := c0) (b := 1) (by omega)) ?_
        refine va_iast hx hb hK hP hD hS 1 0 rfl rfl (hs_in (by decide)) dX8_join_82 (fun H locs hP hD hS => ?_)
        have hP : va_P D vwCl [_, oqI k mo_st 132 (upd (upd sf (1 + ji) (jmax (sf (1 + ji)) (sf (1 + ji + 1)))) 0 (nI (c0 - 1)))] H := hP
        have hD : va_D A [_, oqI k mo_st 132 (upd (upd sf (1 + ji) (jmax (sf (1 + ji)) (sf (1 + ji + 1)))) 0 (nI (c0 - 1)))] := hD
        refine lv_iload_n hx hb dX8_join_83 rfl (lv_at hl 2 rfl) ?_
        refine lv_iconst (v := 1) hx hb dX8_join_84 hki_1 ?_
        refine lv_iadd hx hb dX8_join_85 ?_
        refine hs_topi (nI (ji + 1)) (nI_add (ji) (1)) ?_
        refine lv_istore_n (lv' := [(3, .int (nI (ji + 1))), (2, .int ((sf (1 + ji)) + (sf (1 + ji + 1)))), (0, .ref mo), (1, .int (nI ji))]) hx hb dX8_join_86 rfl hl (Nat.le_of_ble_eq_true rfl) rfl (fun ls hl => ?_)
        refine hs_while (σ := Nat × (Nat → Int32)) (fun x => ji + 1 ≤ x.1 ∧ x.1 ≤ c0 - 1 ∧ x.2 = shl (upd (upd sf (1 + ji) (jmax (sf (1 + ji)) (sf (1 + ji + 1)))) 0 (nI (c0 - 1))) (1 + (ji + 1)) (1 + x.1)) (fun x => c0 - x.1) (fun x => [oq7 mo mo_st mo_at mo_isKept (nI mo_pe) (nI mo_hm) mo_draft (nI mo_dp) (nI mo_dh) mo_toldLines mo_highest mo_tape (nI mo_tl) (nI mo_ps) (nI mo_fr) mo_sort mo_value (nI mo_ft) mo_wrongAt mo_row mo_orderMany (nI mo_fo) mo_lightest mo_heaviest mo_before mo_justSum mo_toldSum mo_allWays mo_lanes mo_sizes mo_cells mo_torn mo_had, oqI k mo_st 132 ((x.2))]) (fun x => [(3, .int (nI (x.1))), (2, .int ((sf (1 + ji)) + (sf (1 + ji + 1)))), (0, .ref mo), (1, .int (nI ji))]) ?_ (ji + 1, upd (upd sf (1 + ji) (jmax (sf (1 + ji)) (sf (1 + ji + 1)))) 0 (nI (c0 - 1))) ?_ hP hD hS hl
        · intro x hI ih87 H locs ls hP hD hS hl
          obtain ⟨kx, g⟩ := x
          try dsimp only at hI
          have hP : va_P D vwCl [_, oqI k mo_st 132 (g)] H := hP
          have hD : va_D A [_, oqI k mo_st 132 (g)] := hD
          have hl : lv_has ls 4 [(3, .int (nI kx)), (2, .int ((sf (1 + ji)) + (sf (1 + ji + 1)))), (0, .ref mo), (1, .int (nI ji))] := hl
          refine lv_iload_n hx hb dX8_join_87 rfl (lv_at hl 0 rfl) ?_
          refine lv_aload_n hx hb dX8_join_88 rfl (lv_at hl 2 rfl) ?_
          refine va_get (D := D) (ci := 7) (v := .ref mo_st) (C := RX8) (T := TX8) (N := 32) hx hb hts hiX8 hown hK hP 0 rfl rfl 0 (Nat.le_of_ble_eq_true rfl) fl7 (fun _ h9 => h9) rfl dX8_join_89 ?_
          refine lv_iconst (v := 0) hx hb dX8_join_92 hki_0 ?_
          refine va_iald hx hb hK hP 1 0 rfl rfl (hs_in (by decide)) dX8_join_93 ?_
          refine hs_topi (nI (c0 - 1)) ((congrFun hI.2.2 0).trans ((shl_out (Or.inl (by omega))).trans (hs_uq rfl))) ?_
          refine lv_icmp_ge (tgt := 121) hx hb dX8_join_94 rfl (fun c_8 => ?_) (fun c_8 => ?_)
          · have nc_8 : (c0 - 1) ≤ kx := (nI_leI (a := (c0 - 1)) (b := kx) (by omega) (by omega)).mp c_8
            refine lv_aload_n hx hb dX8_join_121 rfl (lv_at hl 2 rfl) ?_
            refine va_get (D := D) (ci := 7) (v := .ref mo_st) (C := RX8) (T := TX8) (N := 32) hx hb hts hiX8 hown hK hP 0 rfl rfl 0 (Nat.le_of_ble_eq_true rfl) fl7 (fun _ h9 => h9) rfl dX8_join_122 ?_
            refine lv_iconst (v := 0) hx hb dX8_join_125 hki_0 ?_
            refine va_iald hx hb hK hP 1 0 rfl rfl (hs_in (by decide)) dX8_join_126 ?_
            refine hs_topi (nI (c0 - 1)) ((congrFun hI.2.2 0).trans ((shl_out (Or.inl (by omega))).trans (hs_uq rfl))) ?_
            exact hs_iret hx hb hr hlocks hK hP hD hS g [0, 1] rfl (hs_upnd rfl) dX8_join_127 (Or.inr ⟨ji, by omega, rfl, Or.inr ⟨by omega, rfl, (by (try dsimp only); rw [hI.2.2, show kx = c0 - 1 by omega]; rfl)⟩⟩)
          · have nc_8 : ¬ (c0 - 1) ≤ kx := fun hq9 => c_8 ((nI_leI (a := (c0 - 1)) (b := kx) (by omega) (by omega)).mpr hq9)
            refine lv_aload_n hx hb dX8_join_97 rfl (lv_at hl 2 rfl) ?_
            refine va_get (D := D) (ci := 7) (v := .ref mo_st) (C := RX8) (T := TX8) (N := 32) hx hb hts hiX8 hown hK hP 0 rfl rfl 0 (Nat.le_of_ble_eq_true rfl) fl7 (fun _ h9 => h9) rfl dX8_join_98 ?_
            refine lv_iconst (v := 1) hx hb dX8_join_101 hki_1 ?_
            refine lv_iload_n hx hb dX8_join_102 rfl (lv_at hl 0 rfl) ?_
            refine lv_iadd hx hb dX8_join_103 ?_
            refine hs_topi (nI (1 + kx)) (nI_add (1) (kx)) ?_
            refine lv_aload_n hx hb dX8_join_104 rfl (lv_at hl 2 rfl) ?_
            refine va_get (D := D) (ci := 7) (v := .ref mo_st) (C := RX8) (T := TX8) (N := 32) hx hb hts hiX8 hown hK hP 0 rfl rfl 0 (Nat.le_of_ble_eq_true rfl) fl7 (fun _ h9 => h9) rfl dX8_join_105 ?_
            refine lv_iconst (v := 1) hx hb dX8_join_108 hki_1 ?_
            refine lv_iload_n hx hb dX8_join_109 rfl (lv_at hl 0 rfl) ?_
            refine lv_iadd hx hb dX8_join_110 ?_
            refine hs_topi (nI (1 + kx)) (nI_add (1) (kx)) ?_
            refine lv_iconst (v := 1) hx hb dX8_join_111 hki_1 ?_
            refine lv_iadd hx hb dX8_join_112 ?_
            refine hs_topi (nI ((1 + kx) + 1)) (nI_add ((1 + kx)) (1)) ?_
            refine va_iald hx hb hK hP 1 0 rfl rfl (vp_in_nI (show ((1 + kx) + 1) < 132 by omega) (by decide)) dX8_join_113 ?_
            refine va_iast hx hb hK hP hD hS 1 0 rfl rfl (vp_in_nI (show (1 + kx) < 132 by omega) (by decide)) dX8_join_114 (fun H locs hP hD hS => ?_)
            have hP : va_P D vwCl [_, oqI k mo_st 132 (upd g ((nI (1 + kx)).toNatClampNeg) (g (nI ((1 + kx) + 1)).toNatClampNeg))] H := hP
            have hD : va_D A [_, oqI k mo_st 132 (upd g ((nI (1 + kx)).toNatClampNeg) (g (nI ((1 + kx) + 1)).toNatClampNeg))] := hD
            refine lv_iinc (v := nI (kx + 1)) (lv' := [(3, .int (nI (kx + 1))), (2, .int ((sf (1 + ji)) + (sf (1 + ji + 1)))), (0, .ref mo), (1, .int (nI ji))]) hx hb dX8_join_115 hl (k := 0) rfl (nI_add (kx) 1) (Nat.le_of_ble_eq_true rfl) rfl (fun ls hl => ?_)
            refine lv_goto (tgt := 87) hx hb dX8_join_118 rfl ?_
            exact ih87 (kx + 1, upd g ((nI (1 + kx)).toNatClampNeg) (g (nI ((1 + kx) + 1)).toNatClampNeg)) (by (try dsimp only); exact ⟨by omega, by omega, (by have h9 := shl_s hI.2.2 (by omega) (by omega); rw [show 1 + kx + 1 = 1 + (kx + 1) by omega] at h9 ⊢; exact h9)⟩) (by (try dsimp only); omega) _ _ _ hP hD hS (lv_sub hl [0, 1, 2, 3] rfl)
        · (try dsimp only); exact ⟨by omega, by omega, shl_0.symm⟩
    · have nc_5 : c0 = 2 := (nI_eq (a := c0) (b := 2) (by omega) (by omega)).mp c_5
      refine lv_bipush (v := (-2)) hx hb dX8_join_30 hkb_m2 ?_
      exact hs_iret hx hb hr hlocks hK hP hD hS sf [0, 1] rfl (hs_upnd rfl) dX8_join_32 (Or.inr ⟨ji, by omega, rfl, Or.inl ⟨by omega, rfl, rfl⟩⟩)
  · refine lv_iconst (v := (-1)) hx hb dX8_join_18 hki_m1 ?_
    exact hs_iret hx hb hr hlocks hK hP hD hS sf [0, 1] rfl (hs_upnd rfl) dX8_join_19 (Or.inl ⟨fun z9 => absurd (hs_n0 c_4) (by obtain ⟨j9, hj9, ej9⟩ := z9; rw [ej9, hsin_of (by rw [nI_toInt (by omega), nI_toInt (by omega)]; have z0 : (0 : Int32).toInt = 0 := rfl; omega)]; decide), rfl, rfl⟩)

set_option maxHeartbeats 4000000 in
set_option maxRecDepth 100000 in
theorem gqf_see (l : Launch) (D : va_G) (k : Nat → ClassId) (sz : Nat) (mo : Nat) (mo_st : Nat) (mo_at : Nat) (mo_isKept : Nat) (mo_pe : Nat) (mo_hm : Nat) (mo_draft : Nat) (mo_dp : Nat) (mo_dh : Nat) (mo_toldLines : Int32) (mo_highest : Int32) (mo_tape : Nat) (mo_tl : Nat) (mo_ps : Nat) (mo_fr : Nat) (mo_sort : Int32) (mo_value : Int32) (mo_ft : Nat) (mo_wrongAt : Int32) (mo_row : Nat) (mo_orderMany : Int32) (mo_fo : Nat) (mo_lightest : Int32) (mo_heaviest : Int32) (mo_before : Nat) (mo_justSum : Int64) (mo_toldSum : Int64) (mo_allWays : Int64) (mo_lanes : Nat) (mo_sizes : Nat) (mo_cells : Nat) (mo_torn : Int32) (mo_had : Nat) (sf : Nat → Int32) (c0 : Nat) (c3 : Nat) (c4 : Nat) (fi : Nat) (i : Int32) (kk : Int32) (fo : Int32) (e0 : sf 0 = nI c0) (h0 : c0 ≤ 8) (h02 : 2 ≤ c0) (e3 : sf 16 = nI c3) (h3 : c3 ≤ 8) (e4 : sf 25 = nI c4) (h4 : c4 ≤ 6) (hpe : mo_pe ≤ 4) (hm2 : 2 ≤ mo_hm) (hm5 : mo_hm ≤ 5) (ef : sf 14 = nI fi) (hfi : fi ≤ 99) (hsaw : ∀ i, i < c4 → vp_in (sf (26 + 3 * i)) 4) : MI l yX8_see wsX8_see ({ frames := 2, cells := 0, slots := 0, locals := 46 }) D k [.ref mo, .int i, .int kk, .int fo] [oq7 mo mo_st mo_at mo_isKept (nI mo_pe) (nI mo_hm) mo_draft (nI mo_dp) (nI mo_dh) mo_toldLines mo_highest mo_tape (nI mo_tl) (nI mo_ps) (nI mo_fr) mo_sort mo_value (nI mo_ft) mo_wrongAt mo_row mo_orderMany (nI mo_fo) mo_lightest mo_heaviest mo_before mo_justSum mo_toldSum mo_allWays mo_lanes mo_sizes mo_cells mo_torn mo_had, oqI k mo_st 132 (sf)] sz (fun (r : Int32) (u : Nat → Int32) => mSn mo_pe c0 c4 sf i kk fo r u) (fun (u : Nat → Int32) => [oq7 mo mo_st mo_at mo_isKept (nI mo_pe) (nI mo_hm) mo_draft (nI mo_dp) (nI mo_dh) mo_toldLines mo_highest mo_tape (nI mo_tl) (nI mo_ps) (nI mo_fr) mo_sort mo_value (nI mo_ft) mo_wrongAt mo_row mo_orderMany (nI mo_fo) mo_lightest mo_heaviest mo_before mo_justSum mo_toldSum mo_allWays mo_lanes mo_sizes mo_cells mo_torn mo_had, oqI k mo_st 132 (u)]) := by
  refine Met.ofW (cc := cX8_see) (maxL := 5) (ret := (some .int)) hpn_X8 rfl ?_
  intro p e s m args below meth c s₁ B hml hv
  obtain ⟨rfl, hsz, hP, hK, hD0, hN⟩ := hv
  have hx := B.exec
  have hb := B.bytes
  have hr := B.returns
  have hlocks := B.notSynchronized
  have hts := atoms_spec (ws := wsX8_see) B.pre
  have hown := findClass_of_methodNamed B.named
  have hown : s.vm.findClass RX8 = some m.cls := hown
  have hiX8 : ∀ w ∈ u_ws RX8 TX8 32, w ∈ wsX8_see := fun w9 hw9 => List.mem_cons_of_mem _ (igX8 w9 hw9)
  have fl7 := hts (.fieldLink RX8 7 "HalfScalesModel" "st" "[I") (List.mem_cons_of_mem _ (hs_inG 4 80 rfl rfl))
  have kl197 := hts (.constantLong RX8 197 (2)) (List.mem_cons_of_mem _ (hs_inG 5 86 rfl rfl))
  subst hsz
  have hD := hD0.self (sz := s.heap.size)
  generalize hAe : va_A [oq7 mo mo_st mo_at mo_isKept (nI mo_pe) (nI mo_hm) mo_draft (nI mo_dp) (nI mo_dh) mo_toldLines mo_highest mo_tape (nI mo_tl) (nI mo_ps) (nI mo_fr) mo_sort mo_value (nI mo_ft) mo_wrongAt mo_row mo_orderMany (nI mo_fo) mo_lightest mo_heaviest mo_before mo_justSum mo_toldSum mo_allWays mo_lanes mo_sizes mo_cells mo_torn mo_had, oqI k mo_st 132 (sf)] s.heap.size = A at hD ⊢
  have hA : ∀ q : Nat, s.heap.size ≤ q → A q := fun q h => by rw [← hAe]; exact Or.inr h
  have hS : va_S A s.heap s.heap [] := va_S.rf
  have hl := lv_entry ([.ref mo, .int i, .int kk, .int fo]) (n := 5) (Nat.le_of_ble_eq_true rfl)
  rw [lg_entry_eq]
  generalize (lg_sl ([.ref mo, .int i, .int kk, .int fo]) ++ List.replicate (5 - (lg_sl ([.ref mo, .int i, .int kk, .int fo])).length) Slot.unset).toArray = ls at hl ⊢
  have hl : lv_has ls 5 [(0, .ref mo), (1, .int i), (2, .int kk), (3, .int fo)] := hl
  have hP : va_P D vwCl [oq7 mo mo_st mo_at mo_isKept (nI mo_pe) (nI mo_hm) mo_draft (nI mo_dp) (nI mo_dh) mo_toldLines mo_highest mo_tape (nI mo_tl) (nI mo_ps) (nI mo_fr) mo_sort mo_value (nI mo_ft) mo_wrongAt mo_row mo_orderMany (nI mo_fo) mo_lightest mo_heaviest mo_before mo_justSum mo_toldSum mo_allWays mo_lanes mo_sizes mo_cells mo_torn mo_had, oqI k mo_st 132 (sf)] s.heap := hP
  refine lv_aload_n hx hb dX8_see_0 rfl (lv_at hl 0 rfl) ?_
  refine lv_iload_n hx hb dX8_see_1 rfl (lv_at hl 1 rfl) ?_
  refine hs_ciM (va_runV (As := [.int i]) (rest := []) ⟨hx, hb, hml, hown, hts⟩ (gm_isPerson l D k _ mo mo_st mo_at mo_isKept mo_pe mo_hm mo_draft mo_dp mo_dh mo_toldLines mo_highest mo_tape mo_tl mo_ps mo_fr mo_sort mo_value mo_ft mo_wrongAt mo_row mo_orderMany mo_fo mo_lightest mo_heaviest mo_before mo_justSum mo_toldSum mo_allWays mo_lanes mo_sizes mo_cells mo_torn mo_had i (by omega)) (cwV 1 hts gX8_see_X8_isPerson rfl rfl rfl ⟨rfl, hq_X8_isPerson⟩ ⟨Nat.le_of_ble_eq_true rfl, Nat.le_of_ble_eq_true rfl⟩) (hs_preV hK hN (hs_subP (w := [_]) hP [0] rfl) (hD.sub (ws' := [_]) [0] (hs_upnd rfl) rfl) (ci := 7) (q0 := 0) rfl rfl) rfl rfl hl.1 rfl (lv_room (Nat.le_of_ble_eq_true rfl)) dX8_see_2 ⟨Nat.le_of_ble_eq_true rfl, Nat.le_of_ble_eq_true rfl⟩) hP hD hS hA [false, true] [_] [_] rfl [0] rfl [0] (fun u_3 => [_]) (fun _ => rfl) (hs_upnd rfl) [false, true] (fun u_3 => [_, _]) (fun _ => rfl) (fun r_1 u_3 H locs hw_2 hP hD hS => ?_)
  refine hs_topi (hsb (hslt i mo_pe)) hw_2 ?_
  refine lv_if_eq (tgt := 28) hx hb dX8_see_5 rfl (fun c_4 => ?_) (fun c_4 => ?_)
  · refine lv_iconst (v := (-1)) hx hb dX8_see_28 hki_m1 ?_
    exact hs_iret hx hb hr hlocks hK hP hD hS sf [0, 1] rfl (hs_upnd rfl) dX8_see_29 (Or.inl ⟨by rw [hs_n0 c_4]; rfl, rfl, rfl⟩)
  · obtain ⟨j_5, hj_5, rfl⟩ := hslt_ex (hs_nb c_4)
    refine lv_aload_n hx hb dX8_see_8 rfl (lv_at hl 0 rfl) ?_
    refine lv_iload_n hx hb dX8_see_9 rfl (lv_at hl 2 rfl) ?_
    refine hs_ciM (va_runV (As := [.int kk]) (rest := []) ⟨hx, hb, hml, hown, hts⟩ (gm_isCut l D k _ mo mo_st mo_at mo_isKept mo_pe mo_hm mo_draft mo_dp mo_dh mo_toldLines mo_highest mo_tape mo_tl mo_ps mo_fr mo_sort mo_value mo_ft mo_wrongAt mo_row mo_orderMany mo_fo mo_lightest mo_heaviest mo_before mo_justSum mo_toldSum mo_allWays mo_lanes mo_sizes mo_cells mo_torn mo_had sf c0 kk e0 (by omega)) (cwV 1 hts gX8_see_X8_isCut rfl rfl rfl ⟨rfl, hq_X8_isCut⟩ ⟨Nat.le_of_ble_eq_true rfl, Nat.le_of_ble_eq_true rfl⟩) (hs_preV hK hN (hs_subP (w := [_, _]) hP [0, 1] rfl) (hD.sub (ws' := [_, _]) [0, 1] (hs_upnd rfl) rfl) (ci := 7) (q0 := 0) rfl rfl) rfl rfl hl.1 rfl (lv_room (Nat.le_of_ble_eq_true rfl)) dX8_see_10 ⟨Nat.le_of_ble_eq_true rfl, Nat.le_of_ble_eq_true rfl⟩) hP hD hS hA [false, false] [] [_, _] rfl [0, 1] rfl [0, 1] (fun u_8 => [_, _]) (fun _ => rfl) (hs_upnd rfl) [false, false] (fun u_8 => [_, _]) (fun _ => rfl) (fun r_6 u_8 H locs hw_7 hP hD hS => ?_)
    refine hs_topi (hsb (hslt1 kk c0)) hw_7 ?_
    refine lv_if_eq (tgt := 28) hx hb dX8_see_13 rfl (fun c_9 => ?_) (fun c_9 => ?_)
    · refine lv_iconst (v := (-1)) hx hb dX8_see_28 hki_m1 ?_
      exact hs_iret hx hb hr hlocks hK hP hD hS sf [0, 1] rfl (hs_upnd rfl) dX8_see_29 (Or.inl ⟨by rw [hs_n0 c_9, Bool.and_false]; rfl, rfl, rfl⟩)
    · refine lv_iload_n hx hb dX8_see_16 rfl (lv_at hl 3 rfl) ?_
      refine lv_i2l hx hb dX8_see_17 rfl ?_
      refine lv_lconst (v := 0) hx hb dX8_see_18 (by decide) ?_
      refine lv_ldc2 hx hb hown kl197 dX8_see_19 ?_
      refine hs_pi (va_runS (As := [.long (((fo) : Int32).toInt64), .long 0, .long 2]) (rest := []) ⟨hx, hb, hml, hown, hts⟩ (gm_in l D k _ fo 0 2) (va_cwS 3 hts gX8_see_X8_in rfl rfl rfl hq_X8_in ⟨Nat.le_of_ble_eq_true rfl, Nat.le_of_ble_eq_true rfl⟩) (hs_preS hK hN (hs_subP (w := []) hP [] rfl) (hD.sub (ws' := []) [] rfl rfl)) rfl rfl hl.1 rfl (lv_room (Nat.le_of_ble_eq_true rfl)) dX8_see_22 ⟨Nat.le_of_ble_eq_true rfl, Nat.le_of_ble_eq_true rfl⟩) hP hD hS hA (fun r_10 u_12 H locs hw_11 hP hS => ?_)
      refine hs_topi (hsb (hsin fo 0 2)) hw_11 ?_
      refine lv_if_ne (tgt := 30) hx hb dX8_see_25 rfl (fun c_13 => ?_) (fun c_13 => ?_)
      · refine lv_aload_n hx hb dX8_see_30 rfl (lv_at hl 0 rfl) ?_
        refine va_get (D := D) (ci := 7) (v := .ref mo_st) (C := RX8) (T := TX8) (N := 32) hx hb hts hiX8 hown hK hP 0 rfl rfl 0 (Nat.le_of_ble_eq_true rfl) fl7 (fun _ h9 => h9) rfl dX8_see_31 ?_
        refine lv_bipush (v := 25) hx hb dX8_see_34 hkb_25 ?_
        refine va_iald hx hb hK hP 1 0 rfl rfl (hs_in (by decide)) dX8_see_36 ?_
        refine hs_topi (nI c4) e4 ?_
        refine lv_bipush (v := 6) hx hb dX8_see_37 hkb_6 ?_
        refine lv_icmp_ne (tgt := 45) hx hb dX8_see_39 rfl (fun c_14 => ?_) (fun c_14 => ?_)
        · have nc_14 : ¬ c4 = 6 := fun hq9 => c_14 ((nI_eq (a := c4) (b := 6) (by omega) (by omega)).mpr hq9)
          refine lv_bipush (v := 26) hx hb dX8_see_45 hkb_26 ?_
          refine lv_iconst (v := 3) hx hb dX8_see_47 hki_3 ?_
          refine lv_aload_n hx hb dX8_see_48 rfl (lv_at hl 0 rfl) ?_
          refine va_get (D := D) (ci := 7) (v := .ref mo_st) (C := RX8) (T := TX8) (N := 32) hx hb hts hiX8 hown hK hP 0 rfl rfl 0 (Nat.le_of_ble_eq_true rfl) fl7 (fun _ h9 => h9) rfl dX8_see_49 ?_
          refine lv_bipush (v := 25) hx hb dX8_see_52 hkb_25 ?_
          refine va_iald hx hb hK hP 1 0 rfl rfl (hs_in (by decide)) dX8_see_54 ?_
          refine hs_topi (nI c4) e4 ?_
          refine lv_imul hx hb dX8_see_55 ?_
          refine hs_topi (nI (3 * c4)) (pk_mul (3) (c4)) ?_
          refine lv_iadd hx hb dX8_see_56 ?_
          refine hs_topi (nI (26 + (3 * c4))) (nI_add (26) ((3 * c4))) ?_
          refine lv_istore (lv' := [(4, .int (nI (26 + (3 * c4)))), (0, .ref mo), (1, .int (nI j_5)), (2, .int kk), (3, .int fo)]) hx hb dX8_see_57 hl (Nat.le_of_ble_eq_true rfl) rfl (fun ls hl => ?_)
          refine lv_aload_n hx hb dX8_see_59 rfl (lv_at hl 1 rfl) ?_
          refine va_get (D := D) (ci := 7) (v := .ref mo_st) (C := RX8) (T := TX8) (N := 32) hx hb hts hiX8 hown hK hP 0 rfl rfl 0 (Nat.le_of_ble_eq_true rfl) fl7 (fun _ h9 => h9) rfl dX8_see_60 ?_
          refine lv_iload hx hb dX8_see_63 (lv_at hl 0 rfl) ?_
          refine lv_iload_n hx hb dX8_see_65 rfl (lv_at hl 2 rfl) ?_
          refine va_iast hx hb hK hP hD hS 1 0 rfl rfl (vp_in_nI (show (26 + (3 * c4)) < 132 by omega) (by decide)) dX8_see_66 (fun H locs hP hD hS => ?_)
          have hP : va_P D vwCl [_, oqI k mo_st 132 (upd sf ((nI (26 + (3 * c4))).toNatClampNeg) (nI j_5))] H := hP
          have hD : va_D A [_, oqI k mo_st 132 (upd sf ((nI (26 + (3 * c4))).toNatClampNeg) (nI j_5))] := hD
          refine lv_aload_n hx hb dX8_see_67 rfl (lv_at hl 1 rfl) ?_
          refine va_get (D := D) (ci := 7) (v := .ref mo_st) (C := RX8) (T := TX8) (N := 32) hx hb hts hiX8 hown hK hP 0 rfl rfl 0 (Nat.le_of_ble_eq_true rfl) fl7 (fun _ h9 => h9) rfl dX8_see_68 ?_
          refine lv_iload hx hb dX8_see_71 (lv_at hl 0 rfl) ?_
          refine lv_iconst (v := 1) hx hb dX8_see_73 hki_1 ?_
          refine lv_iadd hx hb dX8_see_74 ?_
          refine hs_topi (nI ((26 + (3 * c4)) + 1)) (nI_add ((26 + (3 * c4))) (1)) ?_
          refine lv_iload_n hx hb dX8_see_75 rfl (lv_at hl 3 rfl) ?_
          refine va_iast hx hb hK hP hD hS 1 0 rfl rfl (vp_in_nI (show ((26 + (3 * c4)) + 1) < 132 by omega) (by decide)) dX8_see_76 (fun H locs hP hD hS => ?_)
          have hP : va_P D vwCl [_, oqI k mo_st 132 (upd (upd sf ((nI (26 + (3 * c4))).toNatClampNeg) (nI j_5)) ((nI ((26 + (3 * c4)) + 1)).toNatClampNeg) kk)] H := hP
          have hD : va_D A [_, oqI k mo_st 132 (upd (upd sf ((nI (26 + (3 * c4))).toNatClampNeg) (nI j_5)) ((nI ((26 + (3 * c4)) + 1)).toNatClampNeg) kk)] := hD
          refine lv_aload_n hx hb dX8_see_77 rfl (lv_at hl 1 rfl) ?_
          refine va_get (D := D) (ci := 7) (v := .ref mo_st) (C := RX8) (T := TX8) (N := 32) hx hb hts hiX8 hown hK hP 0 rfl rfl 0 (Nat.le_of_ble_eq_true rfl) fl7 (fun _ h9 => h9) rfl dX8_see_78 ?_
          refine lv_iload hx hb dX8_see_81 (lv_at hl 0 rfl) ?_
          refine lv_iconst (v := 2) hx hb dX8_see_83 hki_2 ?_
          refine lv_iadd hx hb dX8_see_84 ?_
          refine hs_topi (nI ((26 + (3 * c4)) + 2)) (nI_add ((26 + (3 * c4))) (2)) ?_
          refine lv_iload_n hx hb dX8_see_85 rfl (lv_at hl 4 rfl) ?_
          refine va_iast hx hb hK hP hD hS 1 0 rfl rfl (vp_in_nI (show ((26 + (3 * c4)) + 2) < 132 by omega) (by decide)) dX8_see_86 (fun H locs hP hD hS => ?_)
          have hP : va_P D vwCl [_, oqI k mo_st 132 (upd (upd (upd sf ((nI (26 + (3 * c4))).toNatClampNeg) (nI j_5)) ((nI ((26 + (3 * c4)) + 1)).toNatClampNeg) kk) ((nI ((26 + (3 * c4)) + 2)).toNatClampNeg) fo)] H := hP
          have hD : va_D A [_, oqI k mo_st 132 (upd (upd (upd sf ((nI (26 + (3 * c4))).toNatClampNeg) (nI j_5)) ((nI ((26 + (3 * c4)) + 1)).toNatClampNeg) kk) ((nI ((26 + (3 * c4)) + 2)).toNatClampNeg) fo)] := hD
          refine lv_aload_n hx hb dX8_see_87 rfl (lv_at hl 1 rfl) ?_
          refine va_get (D := D) (ci := 7) (v := .ref mo_st) (C := RX8) (T := TX8) (N := 32) hx hb hts hiX8 hown hK hP 0 rfl rfl 0 (Nat.le_of_ble_eq_true rfl) fl7 (fun _ h9 => h9) rfl dX8_see_88 ?_
          refine lv_bipush (v := 25) hx hb dX8_see_91 hkb_25 ?_
          refine lv_dup2_11 hx hb dX8_see_93 rfl rfl ?_
          refine va_iald hx hb hK hP 1 0 rfl rfl (hs_in (by decide)) dX8_see_94 ?_
          refine hs_topi (nI c4) ((hs_uc (q := 25) (by omega) (by omega)).trans ((hs_uc (q := 25) (by omega) (by omega)).trans ((hs_uc (q := 25) (by omega) (by omega)).trans e4))) ?_
          refine lv_iconst (v := 1) hx hb dX8_see_95 hki_1 ?_
          refine lv_iadd hx hb dX8_see_96 ?_
          refine hs_topi (nI (c4 + 1)) (nI_add (c4) (1)) ?_
          refine va_iast hx hb hK hP hD hS 1 0 rfl rfl (hs_in (by decide)) dX8_see_97 (fun H locs hP hD hS => ?_)
          have hP : va_P D vwCl [_, oqI k mo_st 132 (upd (upd (upd (upd sf ((nI (26 + (3 * c4))).toNatClampNeg) (nI j_5)) ((nI ((26 + (3 * c4)) + 1)).toNatClampNeg) kk) ((nI ((26 + (3 * c4)) + 2)).toNatClampNeg) fo) 25 (nI (c4 + 1)))] H := hP
          have hD : va_D A [_, oqI k mo_st 132 (upd (upd (upd (upd sf ((nI (26 + (3 * c4))).toNatClampNeg) (nI j_5)) ((nI ((26 + (3 * c4)) + 1)).toNatClampNeg) kk) ((nI ((26 + (3 * c4)) + 2)).toNatClampNeg) fo) 25 (nI (c4 + 1)))] := hD
          refine lv_aload_n hx hb dX8_see_98 rfl (lv_at hl 1 rfl) ?_
          refine va_get (D := D) (ci := 7) (v := .ref mo_st) (C := RX8) (T := TX8) (N := 32) hx hb hts hiX8 hown hK hP 0 rfl rfl 0 (Nat.le_of_ble_eq_true rfl) fl7 (fun _ h9 => h9) rfl dX8_see_99 ?_
          refine lv_bipush (v := 25) hx hb dX8_see_102 hkb_25 ?_
          refine va_iald hx hb hK hP 1 0 rfl rfl (hs_in (by decide)) dX8_see_104 ?_
          refine hs_topi (nI (c4 + 1)) (by first | rfl | decide +kernel) ?_
          exact hs_iret hx hb hr hlocks hK hP hD hS (upd (upd (upd (upd sf ((nI (26 + (3 * c4))).toNatClampNeg) (nI j_5)) ((nI ((26 + (3 * c4)) + 1)).toNatClampNeg) kk) ((nI ((26 + (3 * c4)) + 2)).toNatClampNeg) fo) 25 (nI (c4 + 1))) [0, 1] rfl (hs_upnd rfl) dX8_see_105 (Or.inr (Or.inr ⟨by rw [hs_nb c_4, hs_nb c_9, hs_nb c_13]; rfl, by omega, rfl, (by (try dsimp only); rw [nI_clamp (by omega), nI_clamp (by omega), nI_clamp (by omega)]; rfl)⟩))
        · have nc_14 : c4 = 6 := (nI_eq (a := c4) (b := 6) (by omega) (by omega)).mp c_14
          refine lv_bipush (v := (-3)) hx hb dX8_see_42 hkb_m3 ?_
          exact hs_iret hx hb hr hlocks hK hP hD hS sf [0, 1] rfl (hs_upnd rfl) dX8_see_44 (Or.inr (Or.inl ⟨by rw [hs_nb c_4, hs_nb c_9, hs_nb c_13]; rfl, by omega, rfl, rfl⟩))
      · refine lv_iconst (v := (-1)) hx hb dX8_see_28 hki_m1 ?_
        exact hs_iret hx hb hr hlocks hK hP hD hS sf [0, 1] rfl (hs_upnd rfl) dX8_see_29 (Or.inl ⟨by rw [hs_n0 c_13, Bool.and_false], rfl, rfl⟩)

set_option maxHeartbeats 4000000 in
set_option maxRecDepth 100000 in
theorem gqf_forget (l : Launch) (D : va_G) (k : Nat → ClassId) (sz : Nat) (mo : Nat) (mo_st : Nat) (mo_at : Nat) (mo_isKept : Nat) (mo_pe : Nat) (mo_hm : Nat) (mo_draft : Nat) (mo_dp : Nat) (mo_dh : Nat) (mo_toldLines : Int32) (mo_highest : Int32) (mo_tape : Nat) (mo_tl : Nat) (mo_ps : Nat) (mo_fr : Nat) (mo_sort : Int32) (mo_value : Int32) (mo_ft : Nat) (mo_wrongAt : Int32) (mo_row : Nat) (mo_orderMany : Int32) (mo_fo : Nat) (mo_lightest : Int32) (mo_heaviest : Int32) (mo_before : Nat) (mo_justSum : Int64) (mo_toldSum : Int64) (mo_allWays : Int64) (mo_lanes : Nat) (mo_sizes : Nat) (mo_cells : Nat) (mo_torn : Int32) (mo_had : Nat) (sf : Nat → Int32) (c0 : Nat) (c3 : Nat) (c4 : Nat) (fi : Nat) (n : Int32) (e0 : sf 0 = nI c0) (h0 : c0 ≤ 8) (h02 : 2 ≤ c0) (e3 : sf 16 = nI c3) (h3 : c3 ≤ 8) (e4 : sf 25 = nI c4) (h4 : c4 ≤ 6) (hpe : mo_pe ≤ 4) (hm2 : 2 ≤ mo_hm) (hm5 : mo_hm ≤ 5) (ef : sf 14 = nI fi) (hfi : fi ≤ 99) (hsaw : ∀ i, i < c4 → vp_in (sf (26 + 3 * i)) 4) : MI l yX8_forget wsX8_forget ({ frames := 1, cells := 0, slots := 0, locals := 25 }) D k [.ref mo, .int n] [oq7 mo mo_st mo_at mo_isKept (nI mo_pe) (nI mo_hm) mo_draft (nI mo_dp) (nI mo_dh) mo_toldLines mo_highest mo_tape (nI mo_tl) (nI mo_ps) (nI mo_fr) mo_sort mo_value (nI mo_ft) mo_wrongAt mo_row mo_orderMany (nI mo_fo) mo_lightest mo_heaviest mo_before mo_justSum mo_toldSum mo_allWays mo_lanes mo_sizes mo_cells mo_torn mo_had, oqI k mo_st 132 (sf)] sz (fun (r : Int32) (u : Nat → Int32) => mFo c4 sf n r u) (fun (u : Nat → Int32) => [oq7 mo mo_st mo_at mo_isKept (nI mo_pe) (nI mo_hm) mo_draft (nI mo_dp) (nI mo_dh) mo_toldLines mo_highest mo_tape (nI mo_tl) (nI mo_ps) (nI mo_fr) mo_sort mo_value (nI mo_ft) mo_wrongAt mo_row mo_orderMany (nI mo_fo) mo_lightest mo_heaviest mo_before mo_justSum mo_toldSum mo_allWays mo_lanes mo_sizes mo_cells mo_torn mo_had, oqI k mo_st 132 (u)]) := by
  refine Met.ofW (cc := cX8_forget) (maxL := 2) (ret := (some .int)) hpn_X8 rfl ?_
  intro p e s m args below meth c s₁ B hml hv
  obtain ⟨rfl, hsz, hP, hK, hD0, hN⟩ := hv
  have hx := B.exec
  have hb := B.bytes
  have hr := B.returns
  have hlocks := B.notSynchronized
  have hts := atoms_spec (ws := wsX8_forget) B.pre
  have hown := findClass_of_methodNamed B.named
  have hown : s.vm.findClass RX8 = some m.cls := hown
  have hiX8 : ∀ w ∈ u_ws RX8 TX8 32, w ∈ wsX8_forget := fun w9 hw9 => List.mem_cons_of_mem _ (igX8 w9 hw9)
  have fl7 := hts (.fieldLink RX8 7 "HalfScalesModel" "st" "[I") (List.mem_cons_of_mem _ (hs_inG 4 80 rfl rfl))
  subst hsz
  have hD := hD0.self (sz := s.heap.size)
  generalize hAe : va_A [oq7 mo mo_st mo_at mo_isKept (nI mo_pe) (nI mo_hm) mo_draft (nI mo_dp) (nI mo_dh) mo_toldLines mo_highest mo_tape (nI mo_tl) (nI mo_ps) (nI mo_fr) mo_sort mo_value (nI mo_ft) mo_wrongAt mo_row mo_orderMany (nI mo_fo) mo_lightest mo_heaviest mo_before mo_justSum mo_toldSum mo_allWays mo_lanes mo_sizes mo_cells mo_torn mo_had, oqI k mo_st 132 (sf)] s.heap.size = A at hD ⊢
  have hA : ∀ q : Nat, s.heap.size ≤ q → A q := fun q h => by rw [← hAe]; exact Or.inr h
  have hS : va_S A s.heap s.heap [] := va_S.rf
  have hl := lv_entry ([.ref mo, .int n]) (n := 2) (Nat.le_of_ble_eq_true rfl)
  rw [lg_entry_eq]
  generalize (lg_sl ([.ref mo, .int n]) ++ List.replicate (2 - (lg_sl ([.ref mo, .int n])).length) Slot.unset).toArray = ls at hl ⊢
  have hl : lv_has ls 2 [(0, .ref mo), (1, .int n)] := hl
  have hP : va_P D vwCl [oq7 mo mo_st mo_at mo_isKept (nI mo_pe) (nI mo_hm) mo_draft (nI mo_dp) (nI mo_dh) mo_toldLines mo_highest mo_tape (nI mo_tl) (nI mo_ps) (nI mo_fr) mo_sort mo_value (nI mo_ft) mo_wrongAt mo_row mo_orderMany (nI mo_fo) mo_lightest mo_heaviest mo_before mo_justSum mo_toldSum mo_allWays mo_lanes mo_sizes mo_cells mo_torn mo_had, oqI k mo_st 132 (sf)] s.heap := hP
  refine lv_iload_n hx hb dX8_forget_0 rfl (lv_at hl 1 rfl) ?_
  refine lv_i2l hx hb dX8_forget_1 rfl ?_
  refine lv_lconst (v := 0) hx hb dX8_forget_2 (by decide) ?_
  refine lv_aload_n hx hb dX8_forget_3 rfl (lv_at hl 0 rfl) ?_
  refine va_get (D := D) (ci := 7) (v := .ref mo_st) (C := RX8) (T := TX8) (N := 32) hx hb hts hiX8 hown hK hP 0 rfl rfl 0 (Nat.le_of_ble_eq_true rfl) fl7 (fun _ h9 => h9) rfl dX8_forget_4 ?_
  refine lv_bipush (v := 25) hx hb dX8_forget_7 hkb_25 ?_
  refine va_iald hx hb hK hP 1 0 rfl rfl (hs_in (by decide)) dX8_forget_9 ?_
  refine hs_topi (nI c4) e4 ?_
  refine lv_i2l hx hb dX8_forget_10 rfl ?_
  refine hs_pi (va_runS (As := [.long (((n) : Int32).toInt64), .long 0, .long (((nI c4) : Int32).toInt64)]) (rest := []) ⟨hx, hb, hml, hown, hts⟩ (gm_in l D k _ n 0 (nI c4)) (va_cwS 3 hts gX8_forget_X8_in rfl rfl rfl hq_X8_in ⟨Nat.le_of_ble_eq_true rfl, Nat.le_of_ble_eq_true rfl⟩) (hs_preS hK hN (hs_subP (w := []) hP [] rfl) (hD.sub (ws' := []) [] rfl rfl)) rfl rfl hl.1 rfl (lv_room (Nat.le_of_ble_eq_true rfl)) dX8_forget_11 ⟨Nat.le_of_ble_eq_true rfl, Nat.le_of_ble_eq_true rfl⟩) hP hD hS hA (fun r_1 u_3 H locs hw_2 hP hS => ?_)
  refine hs_topi (hsb (hsin n 0 (nI c4))) hw_2 ?_
  refine lv_if_eq (tgt := 27) hx hb dX8_forget_14 rfl (fun c_4 => ?_) (fun c_4 => ?_)
  · refine lv_iconst (v := (-1)) hx hb dX8_forget_27 hki_m1 ?_
    exact hs_iret hx hb hr hlocks hK hP hD hS sf [0, 1] rfl (hs_upnd rfl) dX8_forget_28 (Or.inl ⟨hs_n0 c_4, rfl, rfl⟩)
  · obtain ⟨j_5, hj_5, hj_5b, rfl⟩ := hs_rng (lo := 0) (hi := c4) (by omega) (by omega) (hs_nb c_4)
    refine lv_aload_n hx hb dX8_forget_17 rfl (lv_at hl 0 rfl) ?_
    refine lv_bipush (v := 25) hx hb dX8_forget_18 hkb_25 ?_
    refine lv_iload_n hx hb dX8_forget_20 rfl (lv_at hl 1 rfl) ?_
    refine hs_ciM (va_runV (As := [.int 25, .int (nI j_5)]) (rest := []) ⟨hx, hb, hml, hown, hts⟩ (gr_becomes l D k _ mo mo_st mo_at mo_isKept mo_pe mo_hm mo_draft mo_dp mo_dh mo_toldLines mo_highest mo_tape mo_tl mo_ps mo_fr mo_sort mo_value mo_ft mo_wrongAt mo_row mo_orderMany mo_fo mo_lightest mo_heaviest mo_before mo_justSum mo_toldSum mo_allWays mo_lanes mo_sizes mo_cells mo_torn mo_had sf 25 (nI j_5) (by omega)) (cwV 2 hts gX8_forget_X8_becomes rfl rfl rfl ⟨rfl, hq_X8_becomes⟩ ⟨Nat.le_of_ble_eq_true rfl, Nat.le_of_ble_eq_true rfl⟩) (hs_preV hK hN (hs_subP (w := [_, _]) hP [0, 1] rfl) (hD.sub (ws' := [_, _]) [0, 1] (hs_upnd rfl) rfl) (ci := 7) (q0 := 0) rfl rfl) rfl rfl hl.1 rfl (lv_room (Nat.le_of_ble_eq_true rfl)) dX8_forget_21 ⟨Nat.le_of_ble_eq_true rfl, Nat.le_of_ble_eq_true rfl⟩) hP hD hS hA [false, false] [] [_, _] rfl [0, 1] rfl [0, 1] (fun u_8 => [_, _]) (fun _ => rfl) (hs_upnd rfl) [false, false] (fun u_8 => [_, _]) (fun _ => rfl) (fun r_6 u_8 H locs hw_7 hP hD hS => ?_)
    refine hs_topi (sf 25) hw_7 ?_
    refine lv_goto (tgt := 28) hx hb dX8_forget_24 rfl ?_
    exact hs_iret hx hb hr hlocks hK hP hD hS (upd sf 25 (nI j_5)) [0, 1] rfl (hs_upnd rfl) dX8_forget_28 (Or.inr ⟨hs_nb c_4, e4, rfl⟩)

set_option maxHeartbeats 4000000 in
set_option maxRecDepth 100000 in
theorem gqf_lighter (l : Launch) (D : va_G) (k : Nat → ClassId) (sz : Nat) (mo : Nat) (mo_st : Nat) (mo_at : Nat) (mo_isKept : Nat) (mo_pe : Nat) (mo_hm : Nat) (mo_draft : Nat) (mo_dp : Nat) (mo_dh : Nat) (mo_toldLines : Int32) (mo_highest : Int32) (mo_tape : Nat) (mo_tl : Nat) (mo_ps : Nat) (mo_fr : Nat) (mo_sort : Int32) (mo_value : Int32) (mo_ft : Nat) (mo_wrongAt : Int32) (mo_row : Nat) (mo_orderMany : Int32) (mo_fo : Nat) (mo_lightest : Int32) (mo_heaviest : Int32) (mo_before : Nat) (mo_justSum : Int64) (mo_toldSum : Int64) (mo_allWays : Int64) (mo_lanes : Nat) (mo_sizes : Nat) (mo_cells : Nat) (mo_torn : Int32) (mo_had : Nat) (sf : Nat → Int32) (c0 : Nat) (c3 : Nat) (c4 : Nat) (fi : Nat) (af : Nat → Int32) (rf : Nat → Int32) (bf : Nat → Int32) (lt : Nat → Nat) (hv : Nat → Nat) (a : Int32) (b : Int32) (e0 : sf 0 = nI c0) (h0 : c0 ≤ 8) (h02 : 2 ≤ c0) (e3 : sf 16 = nI c3) (h3 : c3 ≤ 8) (e4 : sf 25 = nI c4) (h4 : c4 ≤ 6) (hpe : mo_pe ≤ 4) (hm2 : 2 ≤ mo_hm) (hm5 : mo_hm ≤ 5) (ef : sf 14 = nI fi) (hfi : fi ≤ 99) (hsaw : ∀ i, i < c4 → vp_in (sf (26 + 3 * i)) 4) (hpr : ∀ k, k < c3 → (sf (17 + k) = nI (10 * lt k + hv k) ∧ lt k < mo_hm ∧ hv k < mo_hm)) : MI l yX8_lighter wsX8_lighter ({ frames := 3, cells := 0, slots := 0, locals := 71 }) D k [.ref mo, .int a, .int b] [oq7 mo mo_st mo_at mo_isKept (nI mo_pe) (nI mo_hm) mo_draft (nI mo_dp) (nI mo_dh) mo_toldLines mo_highest mo_tape (nI mo_tl) (nI mo_ps) (nI mo_fr) mo_sort mo_value (nI mo_ft) mo_wrongAt mo_row mo_orderMany (nI mo_fo) mo_lightest mo_heaviest mo_before mo_justSum mo_toldSum mo_allWays mo_lanes mo_sizes mo_cells mo_torn mo_had, oqI k mo_st 132 (sf), oqI k mo_at 44 (af), oqI k mo_row 5 (rf), oqI k mo_before 25 (bf)] sz (fun (r : Int32) (u : (Nat → Int32) × (Nat → Int32) × (Int32 × Nat × Int32 × Int32) × (Nat → Int32) × (Nat → Int32)) => mLi mo_hm c3 lt hv sf a b r u.1) (fun (u : (Nat → Int32) × (Nat → Int32) × (Int32 × Nat × Int32 × Int32) × (Nat → Int32) × (Nat → Int32)) => [oq7 mo mo_st mo_at mo_isKept (nI mo_pe) (nI mo_hm) mo_draft (nI mo_dp) (nI mo_dh) mo_toldLines mo_highest mo_tape (nI mo_tl) (nI mo_ps) (nI mo_fr) mo_sort mo_value (nI mo_ft) mo_wrongAt mo_row u.2.2.1.1 (nI (u.2.2.1.2.1)) u.2.2.1.2.2.1 u.2.2.1.2.2.2 mo_before mo_justSum mo_toldSum mo_allWays mo_lanes mo_sizes mo_cells mo_torn mo_had, oqI k mo_st 132 (u.1), oqI k mo_at 44 (u.2.1), oqI k mo_row 5 (u.2.2.2.1), oqI k mo_before 25 (u.2.2.2.2)]) := by
  refine Met.ofW (cc := cX8_lighter) (maxL := 3) (ret := (some .int)) hpn_X8 rfl ?_
  intro p e s m args below meth c s₁ B hml hv
  obtain ⟨rfl, hsz, hP, hK, hD0, hN⟩ := hv
  have hx := B.exec
  have hb := B.bytes
  have hr := B.returns
  have hlocks := B.notSynchronized
  have hts := atoms_spec (ws := wsX8_lighter) B.pre
  have hown := findClass_of_methodNamed B.named
  have hown : s.vm.findClass RX8 = some m.cls := hown
  have hiX8 : ∀ w ∈ u_ws RX8 TX8 32, w ∈ wsX8_lighter := fun w9 hw9 => List.mem_cons_of_mem _ (igX8 w9 hw9)
  have fl66 := hts (.fieldLink RX8 66 "HalfScalesModel" "halfMany" "I") (List.mem_cons_of_mem _ (hs_inG 4 84 rfl rfl))
  have fl7 := hts (.fieldLink RX8 7 "HalfScalesModel" "st" "[I") (List.mem_cons_of_mem _ (hs_inG 4 80 rfl rfl))
  have fl29 := hts (.fieldLink RX8 29 "HalfScalesModel" "before" "[I") (List.mem_cons_of_mem _ (hs_inG 4 103 rfl rfl))
  subst hsz
  have hD := hD0.self (sz := s.heap.size)
  generalize hAe : va_A [oq7 mo mo_st mo_at mo_isKept (nI mo_pe) (nI mo_hm) mo_draft (nI mo_dp) (nI mo_dh) mo_toldLines mo_highest mo_tape (nI mo_tl) (nI mo_ps) (nI mo_fr) mo_sort mo_value (nI mo_ft) mo_wrongAt mo_row mo_orderMany (nI mo_fo) mo_lightest mo_heaviest mo_before mo_justSum mo_toldSum mo_allWays mo_lanes mo_sizes mo_cells mo_torn mo_had, oqI k mo_st 132 (sf), oqI k mo_at 44 (af), oqI k mo_row 5 (rf), oqI k mo_before 25 (bf)] s.heap.size = A at hD ⊢
  have hA : ∀ q : Nat, s.heap.size ≤ q → A q := fun q h => by rw [← hAe]; exact Or.inr h
  have hS : va_S A s.heap s.heap [] := va_S.rf
  have hl := lv_entry ([.ref mo, .int a, .int b]) (n := 3) (Nat.le_of_ble_eq_true rfl)
  rw [lg_entry_eq]
  generalize (lg_sl ([.ref mo, .int a, .int b]) ++ List.replicate (3 - (lg_sl ([.ref mo, .int a, .int b])).length) Slot.unset).toArray = ls at hl ⊢
  have hl : lv_has ls 3 [(0, .ref mo), (1, .int a), (2, .int b)] := hl
  have hP : va_P D vwCl [oq7 mo mo_st mo_at mo_isKept (nI mo_pe) (nI mo_hm) mo_draft (nI mo_dp) (nI mo_dh) mo_toldLines mo_highest mo_tape (nI mo_tl) (nI mo_ps) (nI mo_fr) mo_sort mo_value (nI mo_ft) mo_wrongAt mo_row mo_orderMany (nI mo_fo) mo_lightest mo_heaviest mo_before mo_justSum mo_toldSum mo_allWays mo_lanes mo_sizes mo_cells mo_torn mo_had, oqI k mo_st 132 (sf), oqI k mo_at 44 (af), oqI k mo_row 5 (rf), oqI k mo_before 25 (bf)] s.heap := hP
  refine lv_iload_n hx hb dX8_lighter_0 rfl (lv_at hl 1 rfl) ?_
  refine lv_i2l hx hb dX8_lighter_1 rfl ?_
  refine lv_lconst (v := 0) hx hb dX8_lighter_2 (by decide) ?_
  refine lv_aload_n hx hb dX8_lighter_3 rfl (lv_at hl 0 rfl) ?_
  refine va_get (D := D) (ci := 7) (v := .int (nI mo_hm)) (C := RX8) (T := TX8) (N := 32) hx hb hts hiX8 hown hK hP 0 rfl rfl 4 (Nat.le_of_ble_eq_true rfl) fl66 (fun _ h9 => h9) rfl dX8_lighter_4 ?_
  refine lv_iconst (v := 1) hx hb dX8_lighter_7 hki_1 ?_
  refine lv_isub hx hb dX8_lighter_8 ?_
  refine lv_i2l hx hb dX8_lighter_9 rfl ?_
  refine hs_pi (va_runS (As := [.long (((a) : Int32).toInt64), .long 0, .long ((((nI mo_hm) - 1) : Int32).toInt64)]) (rest := []) ⟨hx, hb, hml, hown, hts⟩ (gm_in l D k _ a 0 ((nI mo_hm) - 1)) (va_cwS 3 hts gX8_lighter_X8_in rfl rfl rfl hq_X8_in ⟨Nat.le_of_ble_eq_true rfl, Nat.le_of_ble_eq_true rfl⟩) (hs_preS hK hN (hs_subP (w := []) hP [] rfl) (hD.sub (ws' := []) [] rfl rfl)) rfl rfl hl.1 rfl (lv_room (Nat.le_of_ble_eq_true rfl)) dX8_lighter_10 ⟨Nat.le_of_ble_eq_true rfl, Nat.le_of_ble_eq_true rfl⟩) hP hD hS hA (fun r_1 u_3 H locs hw_2 hP hS => ?_)
  refine hs_topi (hsb (hsin a 0 ((nI mo_hm) - 1))) hw_2 ?_
  refine lv_if_eq (tgt := 37) hx hb dX8_lighter_13 rfl (fun c_4 => ?_) (fun c_4 => ?_)
  · refine lv_iconst (v := (-1)) hx hb dX8_lighter_37 hki_m1 ?_
    exact hs_iret hx hb hr hlocks hK hP hD hS (sf, af, ((mo_orderMany, mo_fo, mo_lightest, mo_heaviest), rf, bf)) [0, 1, 2, 3, 4] rfl (hs_upnd rfl) dX8_lighter_38 (Or.inl ⟨fun z9 => hslt_no (by omega) ((hslt_in (by omega)).symm.trans (hs_n0 c_4)) (by obtain ⟨x9, y9, hx9, hy9, hn9, ex9, ey9⟩ := z9; exact ⟨x9, hx9, ex9⟩), rfl, rfl⟩)
  · obtain ⟨j_5, hj_5, rfl⟩ := hs_inJ (n := mo_hm) (by omega) (hs_nb c_4)
    refine lv_iload_n hx hb dX8_lighter_16 rfl (lv_at hl 2 rfl) ?_
    refine lv_i2l hx hb dX8_lighter_17 rfl ?_
    refine lv_lconst (v := 0) hx hb dX8_lighter_18 (by decide) ?_
    refine lv_aload_n hx hb dX8_lighter_19 rfl (lv_at hl 0 rfl) ?_
    refine va_get (D := D) (ci := 7) (v := .int (nI mo_hm)) (C := RX8) (T := TX8) (N := 32) hx hb hts hiX8 hown hK hP 0 rfl rfl 4 (Nat.le_of_ble_eq_true rfl) fl66 (fun _ h9 => h9) rfl dX8_lighter_20 ?_
    refine lv_iconst (v := 1) hx hb dX8_lighter_23 hki_1 ?_
    refine lv_isub hx hb dX8_lighter_24 ?_
    refine lv_i2l hx hb dX8_lighter_25 rfl ?_
    refine hs_pi (va_runS (As := [.long (((b) : Int32).toInt64), .long 0, .long ((((nI mo_hm) - 1) : Int32).toInt64)]) (rest := []) ⟨hx, hb, hml, hown, hts⟩ (gm_in l D k _ b 0 ((nI mo_hm) - 1)) (va_cwS 3 hts gX8_lighter_X8_in rfl rfl rfl hq_X8_in ⟨Nat.le_of_ble_eq_true rfl, Nat.le_of_ble_eq_true rfl⟩) (hs_preS hK hN (hs_subP (w := []) hP [] rfl) (hD.sub (ws' := []) [] rfl rfl)) rfl rfl hl.1 rfl (lv_room (Nat.le_of_ble_eq_true rfl)) dX8_lighter_26 ⟨Nat.le_of_ble_eq_true rfl, Nat.le_of_ble_eq_true rfl⟩) hP hD hS hA (fun r_6 u_8 H locs hw_7 hP hS => ?_)
    refine hs_topi (hsb (hsin b 0 ((nI mo_hm) - 1))) hw_7 ?_
    refine lv_if_eq (tgt := 37) hx hb dX8_lighter_29 rfl (fun c_9 => ?_) (fun c_9 => ?_)
    · refine lv_iconst (v := (-1)) hx hb dX8_lighter_37 hki_m1 ?_
      exact hs_iret hx hb hr hlocks hK hP hD hS (sf, af, ((mo_orderMany, mo_fo, mo_lightest, mo_heaviest), rf, bf)) [0, 1, 2, 3, 4] rfl (hs_upnd rfl) dX8_lighter_38 (Or.inl ⟨fun z9 => hslt_no (by omega) ((hslt_in (by omega)).symm.trans (hs_n0 c_9)) (by obtain ⟨x9, y9, hx9, hy9, hn9, ex9, ey9⟩ := z9; exact ⟨y9, hy9, ey9⟩), rfl, rfl⟩)
    · obtain ⟨j_10, hj_10, rfl⟩ := hs_inJ (n := mo_hm) (by omega) (hs_nb c_9)
      refine lv_iload_n hx hb dX8_lighter_32 rfl (lv_at hl 1 rfl) ?_
      refine lv_iload_n hx hb dX8_lighter_33 rfl (lv_at hl 2 rfl) ?_
      refine lv_icmp_ne (tgt := 39) hx hb dX8_lighter_34 rfl (fun c_11 => ?_) (fun c_11 => ?_)
      · have nc_11 : ¬ j_5 = j_10 := fun hq9 => c_11 ((nI_eq (a := j_5) (b := j_10) (by omega) (by omega)).mpr hq9)
        refine lv_aload_n hx hb dX8_lighter_39 rfl (lv_at hl 0 rfl) ?_
        refine va_get (D := D) (ci := 7) (v := .ref mo_st) (C := RX8) (T := TX8) (N := 32) hx hb hts hiX8 hown hK hP 0 rfl rfl 0 (Nat.le_of_ble_eq_true rfl) fl7 (fun _ h9 => h9) rfl dX8_lighter_40 ?_
        refine lv_bipush (v := 16) hx hb dX8_lighter_43 hkb_16 ?_
        refine va_iald hx hb hK hP 1 0 rfl rfl (hs_in (by decide)) dX8_lighter_45 ?_
        refine hs_topi (nI c3) e3 ?_
        refine lv_bipush (v := 8) hx hb dX8_lighter_46 hkb_8 ?_
        refine lv_icmp_ne (tgt := 54) hx hb dX8_lighter_48 rfl (fun c_12 => ?_) (fun c_12 => ?_)
        · have nc_12 : ¬ c3 = 8 := fun hq9 => c_12 ((nI_eq (a := c3) (b := 8) (by omega) (by omega)).mpr hq9)
          refine lv_aload_n hx hb dX8_lighter_54 rfl (lv_at hl 0 rfl) ?_
          refine hs_cvM (va_runV (As := []) (rest := []) ⟨hx, hb, hml, hown, hts⟩ (gm_starts l D k _ mo mo_st mo_at mo_isKept mo_pe mo_hm mo_draft mo_dp mo_dh mo_toldLines mo_highest mo_tape mo_tl mo_ps mo_fr mo_sort mo_value mo_ft mo_wrongAt mo_row mo_orderMany mo_fo mo_lightest mo_heaviest mo_before mo_justSum mo_toldSum mo_allWays mo_lanes mo_sizes mo_cells mo_torn mo_had sf af) (cwV 0 hts gX8_lighter_X8_starts rfl rfl rfl ⟨rfl, hq_X8_starts⟩ ⟨Nat.le_of_ble_eq_true rfl, Nat.le_of_ble_eq_true rfl⟩) (hs_preV hK hN (hs_subP (w := [_, _, _]) hP [0, 1, 2] rfl) (hD.sub (ws' := [_, _, _]) [0, 1, 2] (hs_upnd rfl) rfl) (ci := 7) (q0 := 0) rfl rfl) rfl rfl hl.1 rfl (lv_room (Nat.le_of_ble_eq_true rfl)) dX8_lighter_55 ⟨Nat.le_of_ble_eq_true rfl, Nat.le_of_ble_eq_true rfl⟩) hP hD hS hA [false, false, false, true, true] [_, _] [_, _, _] rfl [0, 1, 2] rfl [0, 1, 2] (fun u_15 => [_, _, _]) (fun _ => rfl) (hs_upnd rfl) [false, false, false, true, true] (fun u_15 => [_, _, _, _, _]) (fun _ => rfl) (fun u_15 H locs hw_14 hP hD hS => ?_)
          have hw_14 : ∀ j, j < 44 → u_15 j = sf j := hw_14
          have e0a : u_15 0 = nI c0 := (hw_14 0 (by decide)).trans e0
          have e3a : u_15 16 = nI c3 := (hw_14 16 (by decide)).trans e3
          have e4a : u_15 25 = nI c4 := (hw_14 25 (by decide)).trans e4
          have hw_14 : ∀ j, j < 44 → u_15 j = sf j := hw_14
          refine lv_aload_n hx hb dX8_lighter_58 rfl (lv_at hl 0 rfl) ?_
          refine lv_aload_n hx hb dX8_lighter_59 rfl (lv_at hl 0 rfl) ?_
          refine va_get (D := D) (ci := 7) (v := .int (nI mo_hm)) (C := RX8) (T := TX8) (N := 32) hx hb hts hiX8 hown hK hP 0 rfl rfl 4 (Nat.le_of_ble_eq_true rfl) fl66 (fun _ h9 => h9) rfl dX8_lighter_60 ?_
          refine hs_cvM (va_runV (As := [.int (nI mo_hm)]) (rest := []) ⟨hx, hb, hml, hown, hts⟩ (gr_findOrders l D k _ mo mo_st mo_at mo_isKept mo_pe mo_hm mo_draft mo_dp mo_dh mo_toldLines mo_highest mo_tape mo_tl mo_ps mo_fr mo_sort mo_value mo_ft mo_wrongAt mo_row mo_orderMany mo_fo mo_lightest mo_heaviest mo_before mo_justSum mo_toldSum mo_allWays mo_lanes mo_sizes mo_cells mo_torn mo_had u_15 rf bf mo_hm lt hv c3 hm2 hm5 e3a h3 (fun k hk => ⟨(hw_14 (17 + k) (by omega)).trans (hpr k hk).1, by have h9 := (hpr k hk).2; omega, by have h9 := (hpr k hk).2; omega⟩)) (cwV 1 hts gX8_lighter_X8_findOrders rfl rfl rfl ⟨rfl, hq_X8_findOrders⟩ ⟨Nat.le_of_ble_eq_true rfl, Nat.le_of_ble_eq_true rfl⟩) (hs_preV hK hN (hs_subP (w := [_, _, _, _]) hP [0, 2, 3, 4] rfl) (hD.sub (ws' := [_, _, _, _]) [0, 2, 3, 4] (hs_upnd rfl) rfl) (ci := 7) (q0 := 0) rfl rfl) rfl rfl hl.1 rfl (lv_room (Nat.le_of_ble_eq_true rfl)) dX8_lighter_63 ⟨Nat.le_of_ble_eq_true rfl, Nat.le_of_ble_eq_true rfl⟩) hP hD hS hA [false, true, false, false, false] [_] [_, _, _, _] rfl [0, 1, 2, 3] rfl [0, 1, 2, 3] (fun u_18 => [_, _, _, _]) (fun _ => rfl) (hs_upnd rfl) [false, true, false, false, false] (fun u_18 => [_, _, _, _, _]) (fun _ => rfl) (fun u_18 H locs hw_17 hP hD hS => ?_)
          have hw_17 : foI mo_hm lt hv c3 (mo_hm ^ mo_hm) u_18.1.1 u_18.1.2.1 u_18.1.2.2.1 u_18.1.2.2.2 u_18.2.2 ∧ u_18.1.1 ≤ 3125 ∧ u_18.1.2.1 ≤ 3125 ∧ u_18.1.2.2.1 < 32 ∧ u_18.1.2.2.2 < 32 := hw_17
          refine lv_aload_n hx hb dX8_lighter_66 rfl (lv_at hl 0 rfl) ?_
          refine va_get (D := D) (ci := 7) (v := .ref mo_before) (C := RX8) (T := TX8) (N := 32) hx hb hts hiX8 hown hK hP 0 rfl rfl 23 (Nat.le_of_ble_eq_true rfl) fl29 (fun _ h9 => h9) rfl dX8_lighter_67 ?_
          refine lv_iconst (v := 5) hx hb dX8_lighter_70 hki_5 ?_
          refine lv_iload_n hx hb dX8_lighter_71 rfl (lv_at hl 1 rfl) ?_
          refine lv_imul hx hb dX8_lighter_72 ?_
          refine hs_topi (nI (5 * j_5)) (pk_mul (5) (j_5)) ?_
          refine lv_iload_n hx hb dX8_lighter_73 rfl (lv_at hl 2 rfl) ?_
          refine lv_iadd hx hb dX8_lighter_74 ?_
          refine hs_topi (nI ((5 * j_5) + j_10)) (nI_add ((5 * j_5)) (j_10)) ?_
          refine va_iald hx hb hK hP 4 0 rfl rfl (vp_in_nI (show ((5 * j_5) + j_10) < 25 by omega) (by decide)) dX8_lighter_75 ?_
          have hcl9 := Nat.le_trans (cntB_le (g := gaB mo_hm lt hv c3 j_5 j_10) (mo_hm ^ mo_hm)) (pow5 hm2 hm5).2
          refine hs_topi (nI (cntB (gaB mo_hm lt hv c3 j_5 j_10) (mo_hm ^ mo_hm))) (by rw [nI_clamp (by omega)]; exact hw_17.1.2.2.2.2 j_5 j_10 (by omega) (by omega)) ?_
          refine lv_if_ne (tgt := 82) hx hb dX8_lighter_76 rfl (fun c_19 => ?_) (fun c_19 => ?_)
          · have nc_19 : ¬ (cntB (gaB mo_hm lt hv c3 j_5 j_10) (mo_hm ^ mo_hm)) = 0 := fun hq9 => c_19 ((nI_eq (a := (cntB (gaB mo_hm lt hv c3 j_5 j_10) (mo_hm ^ mo_hm))) (b := 0) (by omega) (by omega)).mpr hq9)
            refine lv_aload_n hx hb dX8_lighter_82 rfl (lv_at hl 0 rfl) ?_
            refine va_get (D := D) (ci := 7) (v := .ref mo_st) (C := RX8) (T := TX8) (N := 32) hx hb hts hiX8 hown hK hP 0 rfl rfl 0 (Nat.le_of_ble_eq_true rfl) fl7 (fun _ h9 => h9) rfl dX8_lighter_83 ?_
            refine lv_bipush (v := 17) hx hb dX8_lighter_86 hkb_17 ?_
            refine lv_aload_n hx hb dX8_lighter_88 rfl (lv_at hl 0 rfl) ?_
            refine va_get (D := D) (ci := 7) (v := .ref mo_st) (C := RX8) (T := TX8) (N := 32) hx hb hts hiX8 hown hK hP 0 rfl rfl 0 (Nat.le_of_ble_eq_true rfl) fl7 (fun _ h9 => h9) rfl dX8_lighter_89 ?_
            refine lv_bipush (v := 16) hx hb dX8_lighter_92 hkb_16 ?_
            refine va_iald hx hb hK hP 1 0 rfl rfl (hs_in (by decide)) dX8_lighter_94 ?_
            refine hs_topi (nI c3) e3 ?_
            refine lv_iadd hx hb dX8_lighter_95 ?_
            refine hs_topi (nI (17 + c3)) (nI_add (17) (c3)) ?_
            refine lv_bipush (v := 10) hx hb dX8_lighter_96 hkb_10 ?_
            refine lv_iload_n hx hb dX8_lighter_98 rfl (lv_at hl 1 rfl) ?_
            refine lv_imul hx hb dX8_lighter_99 ?_
            refine hs_topi (nI (10 * j_5)) (pk_mul (10) (j_5)) ?_
            refine lv_iload_n hx hb dX8_lighter_100 rfl (lv_at hl 2 rfl) ?_
            refine lv_iadd hx hb dX8_lighter_101 ?_
            refine hs_topi (nI ((10 * j_5) + j_10)) (nI_add ((10 * j_5)) (j_10)) ?_
            refine va_iast hx hb hK hP hD hS 1 0 rfl rfl (vp_in_nI (show (17 + c3) < 132 by omega) (by decide)) dX8_lighter_102 (fun H locs hP hD hS => ?_)
            have hP : va_P D vwCl [_, oqI k mo_st 132 (upd sf ((nI (17 + c3)).toNatClampNeg) (nI ((10 * j_5) + j_10))), _, _, _] H := hP
            have hD : va_D A [_, oqI k mo_st 132 (upd sf ((nI (17 + c3)).toNatClampNeg) (nI ((10 * j_5) + j_10))), _, _, _] := hD
            refine lv_aload_n hx hb dX8_lighter_103 rfl (lv_at hl 0 rfl) ?_
            refine va_get (D := D) (ci := 7) (v := .ref mo_st) (C := RX8) (T := TX8) (N := 32) hx hb hts hiX8 hown hK hP 0 rfl rfl 0 (Nat.le_of_ble_eq_true rfl) fl7 (fun _ h9 => h9) rfl dX8_lighter_104 ?_
            refine lv_bipush (v := 16) hx hb dX8_lighter_107 hkb_16 ?_
            refine lv_dup2_11 hx hb dX8_lighter_109 rfl rfl ?_
            refine va_iald hx hb hK hP 1 0 rfl rfl (hs_in (by decide)) dX8_lighter_110 ?_
            refine hs_topi (nI c3) ((hs_uc (q := 16) (by omega) (by omega)).trans e3) ?_
            refine lv_iconst (v := 1) hx hb dX8_lighter_111 hki_1 ?_
            refine lv_iadd hx hb dX8_lighter_112 ?_
            refine hs_topi (nI (c3 + 1)) (nI_add (c3) (1)) ?_
            refine va_iast hx hb hK hP hD hS 1 0 rfl rfl (hs_in (by decide)) dX8_lighter_113 (fun H locs hP hD hS => ?_)
            have hP : va_P D vwCl [_, oqI k mo_st 132 (upd (upd sf ((nI (17 + c3)).toNatClampNeg) (nI ((10 * j_5) + j_10))) 16 (nI (c3 + 1))), _, _, _] H := hP
            have hD : va_D A [_, oqI k mo_st 132 (upd (upd sf ((nI (17 + c3)).toNatClampNeg) (nI ((10 * j_5) + j_10))) 16 (nI (c3 + 1))), _, _, _] := hD
            refine lv_aload_n hx hb dX8_lighter_114 rfl (lv_at hl 0 rfl) ?_
            refine va_get (D := D) (ci := 7) (v := .ref mo_st) (C := RX8) (T := TX8) (N := 32) hx hb hts hiX8 hown hK hP 0 rfl rfl 0 (Nat.le_of_ble_eq_true rfl) fl7 (fun _ h9 => h9) rfl dX8_lighter_115 ?_
            refine lv_bipush (v := 16) hx hb dX8_lighter_118 hkb_16 ?_
            refine va_iald hx hb hK hP 1 0 rfl rfl (hs_in (by decide)) dX8_lighter_120 ?_
            refine hs_topi (nI (c3 + 1)) (by first | rfl | decide +kernel) ?_
            exact hs_iret hx hb hr hlocks hK hP hD hS (upd (upd sf ((nI (17 + c3)).toNatClampNeg) (nI ((10 * j_5) + j_10))) 16 (nI (c3 + 1)), u_15, ((nI (u_18.1.1), u_18.1.2.1, nI (u_18.1.2.2.1), nI (u_18.1.2.2.2)), u_18.2.1, u_18.2.2)) [0, 1, 2, 3, 4] rfl (hs_upnd rfl) dX8_lighter_121 (Or.inr ⟨_, _, by omega, by omega, nc_11, rfl, rfl, Or.inr (Or.inr ⟨by omega, (by rw [hWx, ← cnt_ab hm2 hm5 (fun k hk => (hpr k hk).2) (by omega) (by omega)]; exact nc_19), rfl, (by (try dsimp only); rw [nI_clamp (by omega)])⟩)⟩)
          · have nc_19 : (cntB (gaB mo_hm lt hv c3 j_5 j_10) (mo_hm ^ mo_hm)) = 0 := (nI_eq (a := (cntB (gaB mo_hm lt hv c3 j_5 j_10) (mo_hm ^ mo_hm))) (b := 0) (by omega) (by omega)).mp c_19
            refine lv_bipush (v := (-2)) hx hb dX8_lighter_79 hkb_m2 ?_
            exact hs_iret hx hb hr hlocks hK hP hD hS (sf, u_15, ((nI (u_18.1.1), u_18.1.2.1, nI (u_18.1.2.2.1), nI (u_18.1.2.2.2)), u_18.2.1, u_18.2.2)) [0, 1, 2, 3, 4] rfl (hs_upnd rfl) dX8_lighter_81 (Or.inr ⟨_, _, by omega, by omega, nc_11, rfl, rfl, Or.inr (Or.inl ⟨by omega, (by rw [hWx, ← cnt_ab hm2 hm5 (fun k hk => (hpr k hk).2) (by omega) (by omega)]; exact nc_19), rfl, rfl⟩)⟩)
        · have nc_12 : c3 = 8 := (nI_eq (a := c3) (b := 8) (by omega) (by omega)).mp c_12
          refine lv_bipush (v := (-3)) hx hb dX8_lighter_51 hkb_m3 ?_
          exact hs_iret hx hb hr hlocks hK hP hD hS (sf, af, ((mo_orderMany, mo_fo, mo_lightest, mo_heaviest), rf, bf)) [0, 1, 2, 3, 4] rfl (hs_upnd rfl) dX8_lighter_53 (Or.inr ⟨_, _, by omega, by omega, nc_11, rfl, rfl, Or.inl ⟨by omega, rfl, rfl⟩⟩)
      · have nc_11 : j_5 = j_10 := (nI_eq (a := j_5) (b := j_10) (by omega) (by omega)).mp c_11
        refine lv_iconst (v := (-1)) hx hb dX8_lighter_37 hki_m1 ?_
        exact hs_iret hx hb hr hlocks hK hP hD hS (sf, af, ((mo_orderMany, mo_fo, mo_lightest, mo_heaviest), rf, bf)) [0, 1, 2, 3, 4] rfl (hs_upnd rfl) dX8_lighter_38 (Or.inl ⟨fun z9 => (by obtain ⟨x9, y9, hx9, hy9, hn9, ex9, ey9⟩ := z9; have e8 := (nI_eq (by omega) (by omega)).mp ex9; have e9 := (nI_eq (by omega) (by omega)).mp ey9; have e7 := nc_11; omega), rfl, rfl⟩)

set_option maxHeartbeats 4000000 in
set_option maxRecDepth 100000 in
theorem gr_flag (l : Launch) (D : va_G) (k : Nat → ClassId) (sz : Nat) (v : Int32)  : MI l yX8_flag wsX8_flag ({ frames := 0, cells := 0, slots := 0, locals := 0 }) D k [.int v] [] sz (fun (r : Int32) (u : Unit) => r = (if v = 0 then 0 else 1)) (fun (u : Unit) => []) := by
  refine Met.ofW (cc := cX8_flag) (maxL := 1) (ret := (some .int)) hpn_X8 rfl ?_
  intro p e s m args below meth c s₁ B hml hv
  obtain ⟨rfl, hsz, hP, hK, hD0, hN⟩ := hv
  have hx := B.exec
  have hb := B.bytes
  have hr := B.returns
  have hlocks := B.notSynchronized
  have hts := atoms_spec (ws := wsX8_flag) B.pre
  have hown := findClass_of_methodNamed B.named
  have hown : s.vm.findClass RX8 = some m.cls := hown
  subst hsz
  have hD := hD0.self (sz := s.heap.size)
  generalize hAe : va_A [] s.heap.size = A at hD ⊢
  have hA : ∀ q : Nat, s.heap.size ≤ q → A q := fun q h => by rw [← hAe]; exact Or.inr h
  have hS : va_S A s.heap s.heap [] := va_S.rf
  have hl := lv_entry ([.int v]) (n := 1) (Nat.le_of_ble_eq_true rfl)
  rw [lg_entry_eq]
  generalize (lg_sl ([.int v]) ++ List.replicate (1 - (lg_sl ([.int v])).length) Slot.unset).toArray = ls at hl ⊢
  have hl : lv_has ls 1 [(0, .int v)] := hl
  have hP : va_P D vwCl [] s.heap := hP
  refine lv_iload_n hx hb dX8_flag_0 rfl (lv_at hl 0 rfl) ?_
  refine lv_if_eq (tgt := 8) hx hb dX8_flag_1 rfl (fun c_1 => ?_) (fun c_1 => ?_)
  · refine lv_iconst (v := 0) hx hb dX8_flag_8 hki_0 ?_
    exact hs_iret hx hb hr hlocks hK hP hD hS () [] rfl (hs_upnd rfl) dX8_flag_9 ((by rw [if_pos c_1]))
  · refine lv_iconst (v := 1) hx hb dX8_flag_4 hki_1 ?_
    refine lv_goto (tgt := 9) hx hb dX8_flag_5 rfl ?_
    exact hs_iret hx hb hr hlocks hK hP hD hS () [] rfl (hs_upnd rfl) dX8_flag_9 ((by rw [if_neg c_1]))

set_option maxHeartbeats 4000000 in
set_option maxRecDepth 100000 in
theorem gqf_keep (l : Launch) (D : va_G) (k : Nat → ClassId) (sz : Nat) (mo : Nat) (mo_st : Nat) (mo_at : Nat) (mo_isKept : Nat) (mo_pe : Nat) (mo_hm : Nat) (mo_draft : Nat) (mo_dp : Nat) (mo_dh : Nat) (mo_toldLines : Int32) (mo_highest : Int32) (mo_tape : Nat) (mo_tl : Nat) (mo_ps : Nat) (mo_fr : Nat) (mo_sort : Int32) (mo_value : Int32) (mo_ft : Nat) (mo_wrongAt : Int32) (mo_row : Nat) (mo_orderMany : Int32) (mo_fo : Nat) (mo_lightest : Int32) (mo_heaviest : Int32) (mo_before : Nat) (mo_justSum : Int64) (mo_toldSum : Int64) (mo_allWays : Int64) (mo_lanes : Nat) (mo_sizes : Nat) (mo_cells : Nat) (mo_torn : Int32) (mo_had : Nat) (sf : Nat → Int32) (kf : Nat → Int32) (i : Int32)  : MI l yX8_keep wsX8_keep ({ frames := 1, cells := 0, slots := 0, locals := 25 }) D k [.ref mo, .int i] [oq7 mo mo_st mo_at mo_isKept (nI mo_pe) (nI mo_hm) mo_draft (nI mo_dp) (nI mo_dh) mo_toldLines mo_highest mo_tape (nI mo_tl) (nI mo_ps) (nI mo_fr) mo_sort mo_value (nI mo_ft) mo_wrongAt mo_row mo_orderMany (nI mo_fo) mo_lightest mo_heaviest mo_before mo_justSum mo_toldSum mo_allWays mo_lanes mo_sizes mo_cells mo_torn mo_had, oqI k mo_st 132 (sf), oqB k mo_isKept 2 (kf)] sz (fun (r : Int32) (u : (Nat → Int32) × (Nat → Int32)) => mKe kf sf i r u) (fun (u : (Nat → Int32) × (Nat → Int32)) => [oq7 mo mo_st mo_at mo_isKept (nI mo_pe) (nI mo_hm) mo_draft (nI mo_dp) (nI mo_dh) mo_toldLines mo_highest mo_tape (nI mo_tl) (nI mo_ps) (nI mo_fr) mo_sort mo_value (nI mo_ft) mo_wrongAt mo_row mo_orderMany (nI mo_fo) mo_lightest mo_heaviest mo_before mo_justSum mo_toldSum mo_allWays mo_lanes mo_sizes mo_cells mo_torn mo_had, oqI k mo_st 132 (u.1), oqB k mo_isKept 2 (u.2)]) := by
  refine Met.ofW (cc := cX8_keep) (maxL := 3) (ret := (some .int)) hpn_X8 rfl ?_
  intro p e s m args below meth c s₁ B hml hv
  obtain ⟨rfl, hsz, hP, hK, hD0, hN⟩ := hv
  have hx := B.exec
  have hb := B.bytes
  have hr := B.returns
  have hlocks := B.notSynchronized
  have hts := atoms_spec (ws := wsX8_keep) B.pre
  have hown := findClass_of_methodNamed B.named
  have hown : s.vm.findClass RX8 = some m.cls := hown
  have hiX8 : ∀ w ∈ u_ws RX8 TX8 32, w ∈ wsX8_keep := fun w9 hw9 => List.mem_cons_of_mem _ (igX8 w9 hw9)
  have fl16 := hts (.fieldLink RX8 16 "HalfScalesModel" "isKept" "[Z") (List.mem_cons_of_mem _ (hs_inG 4 82 rfl rfl))
  subst hsz
  have hD := hD0.self (sz := s.heap.size)
  generalize hAe : va_A [oq7 mo mo_st mo_at mo_isKept (nI mo_pe) (nI mo_hm) mo_draft (nI mo_dp) (nI mo_dh) mo_toldLines mo_highest mo_tape (nI mo_tl) (nI mo_ps) (nI mo_fr) mo_sort mo_value (nI mo_ft) mo_wrongAt mo_row mo_orderMany (nI mo_fo) mo_lightest mo_heaviest mo_before mo_justSum mo_toldSum mo_allWays mo_lanes mo_sizes mo_cells mo_torn mo_had, oqI k mo_st 132 (sf), oqB k mo_isKept 2 (kf)] s.heap.size = A at hD ⊢
  have hA : ∀ q : Nat, s.heap.size ≤ q → A q := fun q h => by rw [← hAe]; exact Or.inr h
  have hS : va_S A s.heap s.heap [] := va_S.rf
  have hl := lv_entry ([.ref mo, .int i]) (n := 3) (Nat.le_of_ble_eq_true rfl)
  rw [lg_entry_eq]
  generalize (lg_sl ([.ref mo, .int i]) ++ List.replicate (3 - (lg_sl ([.ref mo, .int i])).length) Slot.unset).toArray = ls at hl ⊢
  have hl : lv_has ls 3 [(0, .ref mo), (1, .int i)] := hl
  have hP : va_P D vwCl [oq7 mo mo_st mo_at mo_isKept (nI mo_pe) (nI mo_hm) mo_draft (nI mo_dp) (nI mo_dh) mo_toldLines mo_highest mo_tape (nI mo_tl) (nI mo_ps) (nI mo_fr) mo_sort mo_value (nI mo_ft) mo_wrongAt mo_row mo_orderMany (nI mo_fo) mo_lightest mo_heaviest mo_before mo_justSum mo_toldSum mo_allWays mo_lanes mo_sizes mo_cells mo_torn mo_had, oqI k mo_st 132 (sf), oqB k mo_isKept 2 (kf)] s.heap := hP
  refine lv_iload_n hx hb dX8_keep_0 rfl (lv_at hl 1 rfl) ?_
  refine lv_i2l hx hb dX8_keep_1 rfl ?_
  refine lv_lconst (v := 0) hx hb dX8_keep_2 (by decide) ?_
  refine lv_lconst (v := 1) hx hb dX8_keep_3 (by decide) ?_
  refine hs_pi (va_runS (As := [.long (((i) : Int32).toInt64), .long 0, .long 1]) (rest := []) ⟨hx, hb, hml, hown, hts⟩ (gm_in l D k _ i 0 1) (va_cwS 3 hts gX8_keep_X8_in rfl rfl rfl hq_X8_in ⟨Nat.le_of_ble_eq_true rfl, Nat.le_of_ble_eq_true rfl⟩) (hs_preS hK hN (hs_subP (w := []) hP [] rfl) (hD.sub (ws' := []) [] rfl rfl)) rfl rfl hl.1 rfl (lv_room (Nat.le_of_ble_eq_true rfl)) dX8_keep_4 ⟨Nat.le_of_ble_eq_true rfl, Nat.le_of_ble_eq_true rfl⟩) hP hD hS hA (fun r_1 u_3 H locs hw_2 hP hS => ?_)
  refine hs_topi (hsb (hsin i 0 1)) hw_2 ?_
  refine lv_if_ne (tgt := 12) hx hb dX8_keep_7 rfl (fun c_4 => ?_) (fun c_4 => ?_)
  · rcases hs_v01 (hs_nb c_4) with rfl | rfl
    · refine lv_aload_n hx hb dX8_keep_12 rfl (lv_at hl 0 rfl) ?_
      refine va_get (D := D) (ci := 7) (v := .ref mo_isKept) (C := RX8) (T := TX8) (N := 32) hx hb hts hiX8 hown hK hP 0 rfl rfl 2 (Nat.le_of_ble_eq_true rfl) fl16 (fun _ h9 => h9) rfl dX8_keep_13 ?_
      refine lv_iload_n hx hb dX8_keep_16 rfl (lv_at hl 1 rfl) ?_
      refine va_zald hx hb hK hP 2 2 rfl rfl (hs_in (by decide)) dX8_keep_17 ?_
      refine hs_topi (kf 0) (by rfl) ?_
      refine hs_pi (va_runS (As := [.int (kf 0)]) (rest := []) ⟨hx, hb, hml, hown, hts⟩ (gr_flag l D k _ (kf 0)) (va_cwS 1 hts gX8_keep_X8_flag rfl rfl rfl hq_X8_flag ⟨Nat.le_of_ble_eq_true rfl, Nat.le_of_ble_eq_true rfl⟩) (hs_preS hK hN (hs_subP (w := []) hP [] rfl) (hD.sub (ws' := []) [] rfl rfl)) rfl rfl hl.1 rfl (lv_room (Nat.le_of_ble_eq_true rfl)) dX8_keep_18 ⟨Nat.le_of_ble_eq_true rfl, Nat.le_of_ble_eq_true rfl⟩) hP hD hS hA (fun r_5 u_7 H locs hw_6 hP hS => ?_)
      refine hs_topi (if (kf 0) = 0 then 0 else 1) hw_6 ?_
      refine lv_istore_n (lv' := [(2, .int (if (kf 0) = 0 then 0 else 1)), (0, .ref mo), (1, .int 0)]) hx hb dX8_keep_21 rfl hl (Nat.le_of_ble_eq_true rfl) rfl (fun ls hl => ?_)
      refine lv_aload_n hx hb dX8_keep_22 rfl (lv_at hl 1 rfl) ?_
      refine va_get (D := D) (ci := 7) (v := .ref mo_isKept) (C := RX8) (T := TX8) (N := 32) hx hb hts hiX8 hown hK hP 0 rfl rfl 2 (Nat.le_of_ble_eq_true rfl) fl16 (fun _ h9 => h9) rfl dX8_keep_23 ?_
      refine lv_iload_n hx hb dX8_keep_26 rfl (lv_at hl 2 rfl) ?_
      refine lv_iconst (v := 1) hx hb dX8_keep_27 hki_1 ?_
      refine va_zast hx hb hK hP hD hS 2 2 rfl rfl (hs_in (by decide)) dX8_keep_28 (fun H locs hP hD hS => ?_)
      have hP : va_P D vwCl [oq7 mo mo_st mo_at mo_isKept (nI mo_pe) (nI mo_hm) mo_draft (nI mo_dp) (nI mo_dh) mo_toldLines mo_highest mo_tape (nI mo_tl) (nI mo_ps) (nI mo_fr) mo_sort mo_value (nI mo_ft) mo_wrongAt mo_row mo_orderMany (nI mo_fo) mo_lightest mo_heaviest mo_before mo_justSum mo_toldSum mo_allWays mo_lanes mo_sizes mo_cells mo_torn mo_had, oqI k mo_st 132 (sf), oqB k mo_isKept 2 (upd kf 0 1)] H := hP
      have hD : va_D A [oq7 mo mo_st mo_at mo_isKept (nI mo_pe) (nI mo_hm) mo_draft (nI mo_dp) (nI mo_dh) mo_toldLines mo_highest mo_tape (nI mo_tl) (nI mo_ps) (nI mo_fr) mo_sort mo_value (nI mo_ft) mo_wrongAt mo_row mo_orderMany (nI mo_fo) mo_lightest mo_heaviest mo_before mo_justSum mo_toldSum mo_allWays mo_lanes mo_sizes mo_cells mo_torn mo_had, oqI k mo_st 132 (sf), oqB k mo_isKept 2 (upd kf 0 1)] := hD
      refine lv_aload_n hx hb dX8_keep_29 rfl (lv_at hl 1 rfl) ?_
      refine lv_bipush (v := 44) hx hb dX8_keep_30 hkb_44 ?_
      refine lv_iload_n hx hb dX8_keep_32 rfl (lv_at hl 2 rfl) ?_
      refine lv_iconst (v := 1) hx hb dX8_keep_33 hki_1 ?_
      refine lv_iadd hx hb dX8_keep_34 ?_
      refine hs_topi 1 (by first | rfl | decide +kernel) ?_
      refine lv_imul hx hb dX8_keep_35 ?_
      refine hs_topi 44 (by first | rfl | decide +kernel) ?_
      refine lv_iconst (v := 0) hx hb dX8_keep_36 hki_0 ?_
      refine hs_cvM (va_runV (As := [.int 44, .int 0]) (rest := []) ⟨hx, hb, hml, hown, hts⟩ (gm_copies l D k _ mo mo_st mo_at mo_isKept mo_pe mo_hm mo_draft mo_dp mo_dh mo_toldLines mo_highest mo_tape mo_tl mo_ps mo_fr mo_sort mo_value mo_ft mo_wrongAt mo_row mo_orderMany mo_fo mo_lightest mo_heaviest mo_before mo_justSum mo_toldSum mo_allWays mo_lanes mo_sizes mo_cells mo_torn mo_had sf 44 0 (by decide +kernel) (by decide +kernel) (by decide +kernel)) (cwV 2 hts gX8_keep_X8_copies rfl rfl rfl ⟨rfl, hq_X8_copies⟩ ⟨Nat.le_of_ble_eq_true rfl, Nat.le_of_ble_eq_true rfl⟩) (hs_preV hK hN (hs_subP (w := [_, _]) hP [0, 1] rfl) (hD.sub (ws' := [_, _]) [0, 1] (hs_upnd rfl) rfl) (ci := 7) (q0 := 0) rfl rfl) rfl rfl hl.1 rfl (lv_room (Nat.le_of_ble_eq_true rfl)) dX8_keep_37 ⟨Nat.le_of_ble_eq_true rfl, Nat.le_of_ble_eq_true rfl⟩) hP hD hS hA [false, false, true] [_] [_, _] rfl [0, 1] rfl [0, 1] (fun u_10 => [_, _]) (fun _ => rfl) (hs_upnd rfl) [false, false, true] (fun u_10 => [_, _, _]) (fun _ => rfl) (fun u_10 H locs hw_9 hP hD hS => ?_)
      have hw_9 : (∀ q, q < 44 → u_10 (44 + q) = sf (0 + q)) ∧ ∀ q, ¬ (44 ≤ q ∧ q < 44 + 44) → u_10 q = sf q := hw_9
      refine lv_iload_n hx hb dX8_keep_40 rfl (lv_at hl 0 rfl) ?_
      exact hs_iret hx hb hr hlocks hK hP hD hS (u_10, upd kf 0 1) [0, 1, 2] rfl (hs_upnd rfl) dX8_keep_41 (Or.inr ⟨0, by decide, rfl, rfl, rfl, fun q hq => (hw_9.1 q hq).trans (congrArg sf (Nat.zero_add q)), hw_9.2⟩)
    · refine lv_aload_n hx hb dX8_keep_12 rfl (lv_at hl 0 rfl) ?_
      refine va_get (D := D) (ci := 7) (v := .ref mo_isKept) (C := RX8) (T := TX8) (N := 32) hx hb hts hiX8 hown hK hP 0 rfl rfl 2 (Nat.le_of_ble_eq_true rfl) fl16 (fun _ h9 => h9) rfl dX8_keep_13 ?_
      refine lv_iload_n hx hb dX8_keep_16 rfl (lv_at hl 1 rfl) ?_
      refine va_zald hx hb hK hP 2 2 rfl rfl (hs_in (by decide)) dX8_keep_17 ?_
      refine hs_topi (kf 1) (by rfl) ?_
      refine hs_pi (va_runS (As := [.int (kf 1)]) (rest := []) ⟨hx, hb, hml, hown, hts⟩ (gr_flag l D k _ (kf 1)) (va_cwS 1 hts gX8_keep_X8_flag rfl rfl rfl hq_X8_flag ⟨Nat.le_of_ble_eq_true rfl, Nat.le_of_ble_eq_true rfl⟩) (hs_preS hK hN (hs_subP (w := []) hP [] rfl) (hD.sub (ws' := []) [] rfl rfl)) rfl rfl hl.1 rfl (lv_room (Nat.le_of_ble_eq_true rfl)) dX8_keep_18 ⟨Nat.le_of_ble_eq_true rfl, Nat.le_of_ble_eq_true rfl⟩) hP hD hS hA (fun r_11 u_13 H locs hw_12 hP hS => ?_)
      refine hs_topi (if (kf 1) = 0 then 0 else 1) hw_12 ?_
      refine lv_istore_n (lv' := [(2, .int (if (kf 1) = 0 then 0 else 1)), (0, .ref mo), (1, .int 1)]) hx hb dX8_keep_21 rfl hl (Nat.le_of_ble_eq_true rfl) rfl (fun ls hl => ?_)
      refine lv_aload_n hx hb dX8_keep_22 rfl (lv_at hl 1 rfl) ?_
      refine va_get (D := D) (ci := 7) (v := .ref mo_isKept) (C := RX8) (T := TX8) (N := 32) hx hb hts hiX8 hown hK hP 0 rfl rfl 2 (Nat.le_of_ble_eq_true rfl) fl16 (fun _ h9 => h9) rfl dX8_keep_23 ?_
      refine lv_iload_n hx hb dX8_keep_26 rfl (lv_at hl 2 rfl) ?_
      refine lv_iconst (v := 1) hx hb dX8_keep_27 hki_1 ?_
      refine va_zast hx hb hK hP hD hS 2 2 rfl rfl (hs_in (by decide)) dX8_keep_28 (fun H locs hP hD hS => ?_)
      have hP : va_P D vwCl [_, oqI k mo_st 132 (sf), oqB k mo_isKept 2 (upd kf 1 1)] H := hP
      have hD : va_D A [_, oqI k mo_st 132 (sf), oqB k mo_isKept 2 (upd kf 1 1)] := hD
      refine lv_aload_n hx hb dX8_keep_29 rfl (lv_at hl 1 rfl) ?_
      refine lv_bipush (v := 44) hx hb dX8_keep_30 hkb_44 ?_
      refine lv_iload_n hx hb dX8_keep_32 rfl (lv_at hl 2 rfl) ?_
      refine lv_iconst (v := 1) hx hb dX8_keep_33 hki_1 ?_
      refine lv_iadd hx hb dX8_keep_34 ?_
      refine hs_topi 2 (by first | rfl | decide +kernel) ?_
      refine lv_imul hx hb dX8_keep_35 ?_
      refine hs_topi 88 (by first | rfl | decide +kernel) ?_
      refine lv_iconst (v := 0) hx hb dX8_keep_36 hki_0 ?_
      refine hs_cvM (va_runV (As := [.int 88, .int 0]) (rest := []) ⟨hx, hb, hml, hown, hts⟩ (gm_copies l D k _ mo mo_st mo_at mo_isKept mo_pe mo_hm mo_draft mo_dp mo_dh mo_toldLines mo_highest mo_tape mo_tl mo_ps mo_fr mo_sort mo_value mo_ft mo_wrongAt mo_row mo_orderMany mo_fo mo_lightest mo_heaviest mo_before mo_justSum mo_toldSum mo_allWays mo_lanes mo_sizes mo_cells mo_torn mo_had sf 88 0 (by decide +kernel) (by decide +kernel) (by decide +kernel)) (cwV 2 hts gX8_keep_X8_copies rfl rfl rfl ⟨rfl, hq_X8_copies⟩ ⟨Nat.le_of_ble_eq_true rfl, Nat.le_of_ble_eq_true rfl⟩) (hs_preV hK hN (hs_subP (w := [_, _]) hP [0, 1] rfl) (hD.sub (ws' := [_, _]) [0, 1] (hs_upnd rfl) rfl) (ci := 7) (q0 := 0) rfl rfl) rfl rfl hl.1 rfl (lv_room (Nat.le_of_ble_eq_true rfl)) dX8_keep_37 ⟨Nat.le_of_ble_eq_true rfl, Nat.le_of_ble_eq_true rfl⟩) hP hD hS hA [false, false, true] [_] [_, _] rfl [0, 1] rfl [0, 1] (fun u_16 => [_, _]) (fun _ => rfl) (hs_upnd rfl) [false, false, true] (fun u_16 => [_, _, _]) (fun _ => rfl) (fun u_16 H locs hw_15 hP hD hS => ?_)
      have hw_15 : (∀ q, q < 44 → u_16 (88 + q) = sf (0 + q)) ∧ ∀ q, ¬ (88 ≤ q ∧ q < 88 + 44) → u_16 q = sf q := hw_15
      refine lv_iload_n hx hb dX8_keep_40 rfl (lv_at hl 0 rfl) ?_
      exact hs_iret hx hb hr hlocks hK hP hD hS (u_16, upd kf 1 1) [0, 1, 2] rfl (hs_upnd rfl) dX8_keep_41 (Or.inr ⟨1, by decide, rfl, rfl, rfl, fun q hq => (hw_15.1 q hq).trans (congrArg sf (Nat.zero_add q)), hw_15.2⟩)
  · refine lv_iconst (v := (-1)) hx hb dX8_keep_10 hki_m1 ?_
    exact hs_iret hx hb hr hlocks hK hP hD hS (sf, kf) [0, 1, 2] rfl (hs_upnd rfl) dX8_keep_11 (Or.inl ⟨hs_n0 c_4, rfl, rfl⟩)

set_option maxHeartbeats 4000000 in
set_option maxRecDepth 100000 in
theorem gqf_back (l : Launch) (D : va_G) (k : Nat → ClassId) (sz : Nat) (mo : Nat) (mo_st : Nat) (mo_at : Nat) (mo_isKept : Nat) (mo_pe : Nat) (mo_hm : Nat) (mo_draft : Nat) (mo_dp : Nat) (mo_dh : Nat) (mo_toldLines : Int32) (mo_highest : Int32) (mo_tape : Nat) (mo_tl : Nat) (mo_ps : Nat) (mo_fr : Nat) (mo_sort : Int32) (mo_value : Int32) (mo_ft : Nat) (mo_wrongAt : Int32) (mo_row : Nat) (mo_orderMany : Int32) (mo_fo : Nat) (mo_lightest : Int32) (mo_heaviest : Int32) (mo_before : Nat) (mo_justSum : Int64) (mo_toldSum : Int64) (mo_allWays : Int64) (mo_lanes : Nat) (mo_sizes : Nat) (mo_cells : Nat) (mo_torn : Int32) (mo_had : Nat) (sf : Nat → Int32) (kf : Nat → Int32) (i : Int32)  : MI l yX8_back wsX8_back ({ frames := 1, cells := 0, slots := 0, locals := 25 }) D k [.ref mo, .int i] [oq7 mo mo_st mo_at mo_isKept (nI mo_pe) (nI mo_hm) mo_draft (nI mo_dp) (nI mo_dh) mo_toldLines mo_highest mo_tape (nI mo_tl) (nI mo_ps) (nI mo_fr) mo_sort mo_value (nI mo_ft) mo_wrongAt mo_row mo_orderMany (nI mo_fo) mo_lightest mo_heaviest mo_before mo_justSum mo_toldSum mo_allWays mo_lanes mo_sizes mo_cells mo_torn mo_had, oqI k mo_st 132 (sf), oqB k mo_isKept 2 (kf)] sz (fun (r : Int32) (u : Nat → Int32) => mBa kf sf i r u) (fun (u : Nat → Int32) => [oq7 mo mo_st mo_at mo_isKept (nI mo_pe) (nI mo_hm) mo_draft (nI mo_dp) (nI mo_dh) mo_toldLines mo_highest mo_tape (nI mo_tl) (nI mo_ps) (nI mo_fr) mo_sort mo_value (nI mo_ft) mo_wrongAt mo_row mo_orderMany (nI mo_fo) mo_lightest mo_heaviest mo_before mo_justSum mo_toldSum mo_allWays mo_lanes mo_sizes mo_cells mo_torn mo_had, oqI k mo_st 132 (u), oqB k mo_isKept 2 (kf)]) := by
  refine Met.ofW (cc := cX8_back) (maxL := 2) (ret := (some .int)) hpn_X8 rfl ?_
  intro p e s m args below meth c s₁ B hml hv
  obtain ⟨rfl, hsz, hP, hK, hD0, hN⟩ := hv
  have hx := B.exec
  have hb := B.bytes
  have hr := B.returns
  have hlocks := B.notSynchronized
  have hts := atoms_spec (ws := wsX8_back) B.pre
  have hown := findClass_of_methodNamed B.named
  have hown : s.vm.findClass RX8 = some m.cls := hown
  have hiX8 : ∀ w ∈ u_ws RX8 TX8 32, w ∈ wsX8_back := fun w9 hw9 => List.mem_cons_of_mem _ (igX8 w9 hw9)
  have fl16 := hts (.fieldLink RX8 16 "HalfScalesModel" "isKept" "[Z") (List.mem_cons_of_mem _ (hs_inG 4 82 rfl rfl))
  have fl7 := hts (.fieldLink RX8 7 "HalfScalesModel" "st" "[I") (List.mem_cons_of_mem _ (hs_inG 4 80 rfl rfl))
  subst hsz
  have hD := hD0.self (sz := s.heap.size)
  generalize hAe : va_A [oq7 mo mo_st mo_at mo_isKept (nI mo_pe) (nI mo_hm) mo_draft (nI mo_dp) (nI mo_dh) mo_toldLines mo_highest mo_tape (nI mo_tl) (nI mo_ps) (nI mo_fr) mo_sort mo_value (nI mo_ft) mo_wrongAt mo_row mo_orderMany (nI mo_fo) mo_lightest mo_heaviest mo_before mo_justSum mo_toldSum mo_allWays mo_lanes mo_sizes mo_cells mo_torn mo_had, oqI k mo_st 132 (sf), oqB k mo_isKept 2 (kf)] s.heap.size = A at hD ⊢
  have hA : ∀ q : Nat, s.heap.size ≤ q → A q := fun q h => by rw [← hAe]; exact Or.inr h
  have hS : va_S A s.heap s.heap [] := va_S.rf
  have hl := lv_entry ([.ref mo, .int i]) (n := 2) (Nat.le_of_ble_eq_true rfl)
  rw [lg_entry_eq]
  generalize (lg_sl ([.ref mo, .int i]) ++ List.replicate (2 - (lg_sl ([.ref mo, .int i])).length) Slot.unset).toArray = ls at hl ⊢
  have hl : lv_has ls 2 [(0, .ref mo), (1, .int i)] := hl
  have hP : va_P D vwCl [oq7 mo mo_st mo_at mo_isKept (nI mo_pe) (nI mo_hm) mo_draft (nI mo_dp) (nI mo_dh) mo_toldLines mo_highest mo_tape (nI mo_tl) (nI mo_ps) (nI mo_fr) mo_sort mo_value (nI mo_ft) mo_wrongAt mo_row mo_orderMany (nI mo_fo) mo_lightest mo_heaviest mo_before mo_justSum mo_toldSum mo_allWays mo_lanes mo_sizes mo_cells mo_torn mo_had, oqI k mo_st 132 (sf), oqB k mo_isKept 2 (kf)] s.heap := hP
  refine lv_iload_n hx hb dX8_back_0 rfl (lv_at hl 1 rfl) ?_
  refine lv_i2l hx hb dX8_back_1 rfl ?_
  refine lv_lconst (v := 0) hx hb dX8_back_2 (by decide) ?_
  refine lv_lconst (v := 1) hx hb dX8_back_3 (by decide) ?_
  refine hs_pi (va_runS (As := [.long (((i) : Int32).toInt64), .long 0, .long 1]) (rest := []) ⟨hx, hb, hml, hown, hts⟩ (gm_in l D k _ i 0 1) (va_cwS 3 hts gX8_back_X8_in rfl rfl rfl hq_X8_in ⟨Nat.le_of_ble_eq_true rfl, Nat.le_of_ble_eq_true rfl⟩) (hs_preS hK hN (hs_subP (w := []) hP [] rfl) (hD.sub (ws' := []) [] rfl rfl)) rfl rfl hl.1 rfl (lv_room (Nat.le_of_ble_eq_true rfl)) dX8_back_4 ⟨Nat.le_of_ble_eq_true rfl, Nat.le_of_ble_eq_true rfl⟩) hP hD hS hA (fun r_1 u_3 H locs hw_2 hP hS => ?_)
  refine hs_topi (hsb (hsin i 0 1)) hw_2 ?_
  refine lv_if_ne (tgt := 12) hx hb dX8_back_7 rfl (fun c_4 => ?_) (fun c_4 => ?_)
  · rcases hs_v01 (hs_nb c_4) with rfl | rfl
    · refine lv_aload_n hx hb dX8_back_12 rfl (lv_at hl 0 rfl) ?_
      refine va_get (D := D) (ci := 7) (v := .ref mo_isKept) (C := RX8) (T := TX8) (N := 32) hx hb hts hiX8 hown hK hP 0 rfl rfl 2 (Nat.le_of_ble_eq_true rfl) fl16 (fun _ h9 => h9) rfl dX8_back_13 ?_
      refine lv_iload_n hx hb dX8_back_16 rfl (lv_at hl 1 rfl) ?_
      refine va_zald hx hb hK hP 2 2 rfl rfl (hs_in (by decide)) dX8_back_17 ?_
      refine hs_topi (kf 0) (by rfl) ?_
      refine lv_if_ne (tgt := 24) hx hb dX8_back_18 rfl (fun c_5 => ?_) (fun c_5 => ?_)
      · refine lv_aload_n hx hb dX8_back_24 rfl (lv_at hl 0 rfl) ?_
        refine lv_iconst (v := 0) hx hb dX8_back_25 hki_0 ?_
        refine lv_bipush (v := 44) hx hb dX8_back_26 hkb_44 ?_
        refine lv_iload_n hx hb dX8_back_28 rfl (lv_at hl 1 rfl) ?_
        refine lv_iconst (v := 1) hx hb dX8_back_29 hki_1 ?_
        refine lv_iadd hx hb dX8_back_30 ?_
        refine hs_topi 1 (by first | rfl | decide +kernel) ?_
        refine lv_imul hx hb dX8_back_31 ?_
        refine hs_topi 44 (by first | rfl | decide +kernel) ?_
        refine hs_cvM (va_runV (As := [.int 0, .int 44]) (rest := []) ⟨hx, hb, hml, hown, hts⟩ (gm_copies l D k _ mo mo_st mo_at mo_isKept mo_pe mo_hm mo_draft mo_dp mo_dh mo_toldLines mo_highest mo_tape mo_tl mo_ps mo_fr mo_sort mo_value mo_ft mo_wrongAt mo_row mo_orderMany mo_fo mo_lightest mo_heaviest mo_before mo_justSum mo_toldSum mo_allWays mo_lanes mo_sizes mo_cells mo_torn mo_had sf 0 44 (by decide +kernel) (by decide +kernel) (by decide +kernel)) (cwV 2 hts gX8_back_X8_copies rfl rfl rfl ⟨rfl, hq_X8_copies⟩ ⟨Nat.le_of_ble_eq_true rfl, Nat.le_of_ble_eq_true rfl⟩) (hs_preV hK hN (hs_subP (w := [_, _]) hP [0, 1] rfl) (hD.sub (ws' := [_, _]) [0, 1] (hs_upnd rfl) rfl) (ci := 7) (q0 := 0) rfl rfl) rfl rfl hl.1 rfl (lv_room (Nat.le_of_ble_eq_true rfl)) dX8_back_32 ⟨Nat.le_of_ble_eq_true rfl, Nat.le_of_ble_eq_true rfl⟩) hP hD hS hA [false, false, true] [_] [_, _] rfl [0, 1] rfl [0, 1] (fun u_8 => [_, _]) (fun _ => rfl) (hs_upnd rfl) [false, false, true] (fun u_8 => [_, _, _]) (fun _ => rfl) (fun u_8 H locs hw_7 hP hD hS => ?_)
        have hw_7 : (∀ q, q < 44 → u_8 (0 + q) = sf (44 + q)) ∧ ∀ q, ¬ (0 ≤ q ∧ q < 0 + 44) → u_8 q = sf q := hw_7
        refine lv_aload_n hx hb dX8_back_35 rfl (lv_at hl 0 rfl) ?_
        refine va_get (D := D) (ci := 7) (v := .ref mo_st) (C := RX8) (T := TX8) (N := 32) hx hb hts hiX8 hown hK hP 0 rfl rfl 0 (Nat.le_of_ble_eq_true rfl) fl7 (fun _ h9 => h9) rfl dX8_back_36 ?_
        refine lv_iconst (v := 0) hx hb dX8_back_39 hki_0 ?_
        refine va_iald hx hb hK hP 1 0 rfl rfl (hs_in (by decide)) dX8_back_40 ?_
        refine hs_topi (u_8 0) (by rfl) ?_
        exact hs_iret hx hb hr hlocks hK hP hD hS u_8 [0, 1, 2] rfl (hs_upnd rfl) dX8_back_41 (Or.inr ⟨0, by decide, rfl, Or.inr ⟨c_5, rfl, fun q hq => (congrArg _ (Nat.zero_add q)).symm.trans (hw_7.1 q hq), fun q hq => hw_7.2 q (by omega)⟩⟩)
      · refine lv_bipush (v := (-2)) hx hb dX8_back_21 hkb_m2 ?_
        exact hs_iret hx hb hr hlocks hK hP hD hS sf [0, 1, 2] rfl (hs_upnd rfl) dX8_back_23 (Or.inr ⟨0, by decide, rfl, Or.inl ⟨c_5, rfl, rfl⟩⟩)
    · refine lv_aload_n hx hb dX8_back_12 rfl (lv_at hl 0 rfl) ?_
      refine va_get (D := D) (ci := 7) (v := .ref mo_isKept) (C := RX8) (T := TX8) (N := 32) hx hb hts hiX8 hown hK hP 0 rfl rfl 2 (Nat.le_of_ble_eq_true rfl) fl16 (fun _ h9 => h9) rfl dX8_back_13 ?_
      refine lv_iload_n hx hb dX8_back_16 rfl (lv_at hl 1 rfl) ?_
      refine va_zald hx hb hK hP 2 2 rfl rfl (hs_in (by decide)) dX8_back_17 ?_
      refine hs_topi (kf 1) (by rfl) ?_
      refine lv_if_ne (tgt := 24) hx hb dX8_back_18 rfl (fun c_9 => ?_) (fun c_9 => ?_)
      · refine lv_aload_n hx hb dX8_back_24 rfl (lv_at hl 0 rfl) ?_
        refine lv_iconst (v := 0) hx hb dX8_back_25 hki_0 ?_
        refine lv_bipush (v := 44) hx hb dX8_back_26 hkb_44 ?_
        refine lv_iload_n hx hb dX8_back_28 rfl (lv_at hl 1 rfl) ?_
        refine lv_iconst (v := 1) hx hb dX8_back_29 hki_1 ?_
        refine lv_iadd hx hb dX8_back_30 ?_
        refine hs_topi 2 (by first | rfl | decide +kernel) ?_
        refine lv_imul hx hb dX8_back_31 ?_
        refine hs_topi 88 (by first | rfl | decide +kernel) ?_
        refine hs_cvM (va_runV (As := [.int 0, .int 88]) (rest := []) ⟨hx, hb, hml, hown, hts⟩ (gm_copies l D k _ mo mo_st mo_at mo_isKept mo_pe mo_hm mo_draft mo_dp mo_dh mo_toldLines mo_highest mo_tape mo_tl mo_ps mo_fr mo_sort mo_value mo_ft mo_wrongAt mo_row mo_orderMany mo_fo mo_lightest mo_heaviest mo_before mo_justSum mo_toldSum mo_allWays mo_lanes mo_sizes mo_cells mo_torn mo_had sf 0 88 (by decide +kernel) (by decide +kernel) (by decide +kernel)) (cwV 2 hts gX8_back_X8_copies rfl rfl rfl ⟨rfl, hq_X8_copies⟩ ⟨Nat.le_of_ble_eq_true rfl, Nat.le_of_ble_eq_true rfl⟩) (hs_preV hK hN (hs_subP (w := [_, _]) hP [0, 1] rfl) (hD.sub (ws' := [_, _]) [0, 1] (hs_upnd rfl) rfl) (ci := 7) (q0 := 0) rfl rfl) rfl rfl hl.1 rfl (lv_room (Nat.le_of_ble_eq_true rfl)) dX8_back_32 ⟨Nat.le_of_ble_eq_true rfl, Nat.le_of_ble_eq_true rfl⟩) hP hD hS hA [false, false, true] [_] [_, _] rfl [0, 1] rfl [0, 1] (fun u_12 => [_, _]) (fun _ => rfl) (hs_upnd rfl) [false, false, true] (fun u_12 => [_, _, _]) (fun _ => rfl) (fun u_12 H locs hw_11 hP hD hS => ?_)
        have hw_11 : (∀ q, q < 44 → u_12 (0 + q) = sf (88 + q)) ∧ ∀ q, ¬ (0 ≤ q ∧ q < 0 + 44) → u_12 q = sf q := hw_11
        refine lv_aload_n hx hb dX8_back_35 rfl (lv_at hl 0 rfl) ?_
        refine va_get (D := D) (ci := 7) (v := .ref mo_st) (C := RX8) (T := TX8) (N := 32) hx hb hts hiX8 hown hK hP 0 rfl rfl 0 (Nat.le_of_ble_eq_true rfl) fl7 (fun _ h9 => h9) rfl dX8_back_36 ?_
        refine lv_iconst (v := 0) hx hb dX8_back_39 hki_0 ?_
        refine va_iald hx hb hK hP 1 0 rfl rfl (hs_in (by decide)) dX8_back_40 ?_
        refine hs_topi (u_12 0) (by rfl) ?_
        exact hs_iret hx hb hr hlocks hK hP hD hS u_12 [0, 1, 2] rfl (hs_upnd rfl) dX8_back_41 (Or.inr ⟨1, by decide, rfl, Or.inr ⟨c_9, rfl, fun q hq => (congrArg _ (Nat.zero_add q)).symm.trans (hw_11.1 q hq), fun q hq => hw_11.2 q (by omega)⟩⟩)
      · refine lv_bipush (v := (-2)) hx hb dX8_back_21 hkb_m2 ?_
        exact hs_iret hx hb hr hlocks hK hP hD hS sf [0, 1, 2] rfl (hs_upnd rfl) dX8_back_23 (Or.inr ⟨1, by decide, rfl, Or.inl ⟨c_9, rfl, rfl⟩⟩)
  · refine lv_iconst (v := (-1)) hx hb dX8_back_10 hki_m1 ?_
    exact hs_iret hx hb hr hlocks hK hP hD hS sf [0, 1, 2] rfl (hs_upnd rfl) dX8_back_11 (Or.inl ⟨hs_n0 c_4, rfl, rfl⟩)

set_option maxHeartbeats 4000000 in
set_option maxRecDepth 100000 in
theorem gqf_feed (l : Launch) (D : va_G) (k : Nat → ClassId) (sz : Nat) (mo : Nat) (mo_st : Nat) (mo_at : Nat) (mo_isKept : Nat) (mo_pe : Nat) (mo_hm : Nat) (mo_draft : Nat) (mo_dp : Nat) (mo_dh : Nat) (mo_toldLines : Int32) (mo_highest : Int32) (mo_tape : Nat) (mo_tl : Nat) (mo_ps : Nat) (mo_fr : Nat) (mo_sort : Int32) (mo_value : Int32) (mo_ft : Nat) (mo_wrongAt : Int32) (mo_row : Nat) (mo_orderMany : Int32) (mo_fo : Nat) (mo_lightest : Int32) (mo_heaviest : Int32) (mo_before : Nat) (mo_justSum : Int64) (mo_toldSum : Int64) (mo_allWays : Int64) (mo_lanes : Nat) (mo_sizes : Nat) (mo_cells : Nat) (mo_torn : Int32) (mo_had : Nat) (tf : Nat → Int32) (ch : Int32) (hl160 : mo_tl ≤ 160) : MI l yX8_feed wsX8_feed ({ frames := 1, cells := 0, slots := 0, locals := 25 }) D k [.ref mo, .int ch] [oq7 mo mo_st mo_at mo_isKept (nI mo_pe) (nI mo_hm) mo_draft (nI mo_dp) (nI mo_dh) mo_toldLines mo_highest mo_tape (nI mo_tl) (nI mo_ps) (nI mo_fr) mo_sort mo_value (nI mo_ft) mo_wrongAt mo_row mo_orderMany (nI mo_fo) mo_lightest mo_heaviest mo_before mo_justSum mo_toldSum mo_allWays mo_lanes mo_sizes mo_cells mo_torn mo_had, oqI k mo_tape 160 (tf)] sz (fun (r : Int32) (u : Nat × (Nat → Int32)) => r = A_feedG mo_tl ch ∧ u.1 = A_feedL mo_tl ch ∧ u.1 ≤ 160 ∧ u.2 = A_feedT tf mo_tl ch) (fun (u : Nat × (Nat → Int32)) => [oq7 mo mo_st mo_at mo_isKept (nI mo_pe) (nI mo_hm) mo_draft (nI mo_dp) (nI mo_dh) mo_toldLines mo_highest mo_tape (nI (u.1)) (nI mo_ps) (nI mo_fr) mo_sort mo_value (nI mo_ft) mo_wrongAt mo_row mo_orderMany (nI mo_fo) mo_lightest mo_heaviest mo_before mo_justSum mo_toldSum mo_allWays mo_lanes mo_sizes mo_cells mo_torn mo_had, oqI k mo_tape 160 (u.2)]) := by
  refine Met.ofW (cc := cX8_feed) (maxL := 2) (ret := (some .int)) hpn_X8 rfl ?_
  intro p e s m args below meth c s₁ B hml hv
  obtain ⟨rfl, hsz, hP, hK, hD0, hN⟩ := hv
  have hx := B.exec
  have hb := B.bytes
  have hr := B.returns
  have hlocks := B.notSynchronized
  have hts := atoms_spec (ws := wsX8_feed) B.pre
  have hown := findClass_of_methodNamed B.named
  have hown : s.vm.findClass RX8 = some m.cls := hown
  have hiX8 : ∀ w ∈ u_ws RX8 TX8 32, w ∈ wsX8_feed := fun w9 hw9 => List.mem_cons_of_mem _ (igX8 w9 hw9)
  have fl75 := hts (.fieldLink RX8 75 "HalfScalesModel" "taped" "I") (List.mem_cons_of_mem _ (hs_inG 4 91 rfl rfl))
  have fl23 := hts (.fieldLink RX8 23 "HalfScalesModel" "tape" "[I") (List.mem_cons_of_mem _ (hs_inG 4 90 rfl rfl))
  have kl69 := hts (.constantLong RX8 69 (127)) (List.mem_cons_of_mem _ (hs_inG 4 181 rfl rfl))
  subst hsz
  have hD := hD0.self (sz := s.heap.size)
  generalize hAe : va_A [oq7 mo mo_st mo_at mo_isKept (nI mo_pe) (nI mo_hm) mo_draft (nI mo_dp) (nI mo_dh) mo_toldLines mo_highest mo_tape (nI mo_tl) (nI mo_ps) (nI mo_fr) mo_sort mo_value (nI mo_ft) mo_wrongAt mo_row mo_orderMany (nI mo_fo) mo_lightest mo_heaviest mo_before mo_justSum mo_toldSum mo_allWays mo_lanes mo_sizes mo_cells mo_torn mo_had, oqI k mo_tape 160 (tf)] s.heap.size = A at hD ⊢
  have hA : ∀ q : Nat, s.heap.size ≤ q → A q := fun q h => by rw [← hAe]; exact Or.inr h
  have hS : va_S A s.heap s.heap [] := va_S.rf
  have hl := lv_entry ([.ref mo, .int ch]) (n := 2) (Nat.le_of_ble_eq_true rfl)
  rw [lg_entry_eq]
  generalize (lg_sl ([.ref mo, .int ch]) ++ List.replicate (2 - (lg_sl ([.ref mo, .int ch])).length) Slot.unset).toArray = ls at hl ⊢
  have hl : lv_has ls 2 [(0, .ref mo), (1, .int ch)] := hl
  have hP : va_P D vwCl [oq7 mo mo_st mo_at mo_isKept (nI mo_pe) (nI mo_hm) mo_draft (nI mo_dp) (nI mo_dh) mo_toldLines mo_highest mo_tape (nI mo_tl) (nI mo_ps) (nI mo_fr) mo_sort mo_value (nI mo_ft) mo_wrongAt mo_row mo_orderMany (nI mo_fo) mo_lightest mo_heaviest mo_before mo_justSum mo_toldSum mo_allWays mo_lanes mo_sizes mo_cells mo_torn mo_had, oqI k mo_tape 160 (tf)] s.heap := hP
  refine lv_iload_n hx hb dX8_feed_0 rfl (lv_at hl 1 rfl) ?_
  refine lv_i2l hx hb dX8_feed_1 rfl ?_
  refine lv_lconst (v := 0) hx hb dX8_feed_2 (by decide) ?_
  refine lv_ldc2 hx hb hown kl69 dX8_feed_3 ?_
  refine hs_pi (va_runS (As := [.long (((ch) : Int32).toInt64), .long 0, .long 127]) (rest := []) ⟨hx, hb, hml, hown, hts⟩ (gm_in l D k _ ch 0 127) (va_cwS 3 hts gX8_feed_X8_in rfl rfl rfl hq_X8_in ⟨Nat.le_of_ble_eq_true rfl, Nat.le_of_ble_eq_true rfl⟩) (hs_preS hK hN (hs_subP (w := []) hP [] rfl) (hD.sub (ws' := []) [] rfl rfl)) rfl rfl hl.1 rfl (lv_room (Nat.le_of_ble_eq_true rfl)) dX8_feed_6 ⟨Nat.le_of_ble_eq_true rfl, Nat.le_of_ble_eq_true rfl⟩) hP hD hS hA (fun r_1 u_3 H locs hw_2 hP hS => ?_)
  refine hs_topi (hsb (hsin ch 0 127)) hw_2 ?_
  refine lv_if_ne (tgt := 14) hx hb dX8_feed_9 rfl (fun c_4 => ?_) (fun c_4 => ?_)
  · refine lv_aload_n hx hb dX8_feed_14 rfl (lv_at hl 0 rfl) ?_
    refine va_get (D := D) (ci := 7) (v := .int (nI mo_tl)) (C := RX8) (T := TX8) (N := 32) hx hb hts hiX8 hown hK hP 0 rfl rfl 11 (Nat.le_of_ble_eq_true rfl) fl75 (fun _ h9 => h9) rfl dX8_feed_15 ?_
    refine lv_sipush (v := 160) hx hb dX8_feed_18 hkp_160 ?_
    refine lv_icmp_ne (tgt := 27) hx hb dX8_feed_21 rfl (fun c_5 => ?_) (fun c_5 => ?_)
    · have nc_5 : ¬ mo_tl = 160 := fun hq9 => c_5 ((nI_eq (a := mo_tl) (b := 160) (by omega) (by omega)).mpr hq9)
      refine lv_aload_n hx hb dX8_feed_27 rfl (lv_at hl 0 rfl) ?_
      refine va_get (D := D) (ci := 7) (v := .ref mo_tape) (C := RX8) (T := TX8) (N := 32) hx hb hts hiX8 hown hK hP 0 rfl rfl 10 (Nat.le_of_ble_eq_true rfl) fl23 (fun _ h9 => h9) rfl dX8_feed_28 ?_
      refine lv_aload_n hx hb dX8_feed_31 rfl (lv_at hl 0 rfl) ?_
      refine va_get (D := D) (ci := 7) (v := .int (nI mo_tl)) (C := RX8) (T := TX8) (N := 32) hx hb hts hiX8 hown hK hP 0 rfl rfl 11 (Nat.le_of_ble_eq_true rfl) fl75 (fun _ h9 => h9) rfl dX8_feed_32 ?_
      refine lv_iload_n hx hb dX8_feed_35 rfl (lv_at hl 1 rfl) ?_
      refine va_iast hx hb hK hP hD hS 1 0 rfl rfl (vp_in_nI (show mo_tl < 160 by omega) (by decide)) dX8_feed_36 (fun H locs hP hD hS => ?_)
      have hP : va_P D vwCl [oq7 mo mo_st mo_at mo_isKept (nI mo_pe) (nI mo_hm) mo_draft (nI mo_dp) (nI mo_dh) mo_toldLines mo_highest mo_tape (nI mo_tl) (nI mo_ps) (nI mo_fr) mo_sort mo_value (nI mo_ft) mo_wrongAt mo_row mo_orderMany (nI mo_fo) mo_lightest mo_heaviest mo_before mo_justSum mo_toldSum mo_allWays mo_lanes mo_sizes mo_cells mo_torn mo_had, oqI k mo_tape 160 (upd tf ((nI mo_tl).toNatClampNeg) ch)] H := hP
      have hD : va_D A [oq7 mo mo_st mo_at mo_isKept (nI mo_pe) (nI mo_hm) mo_draft (nI mo_dp) (nI mo_dh) mo_toldLines mo_highest mo_tape (nI mo_tl) (nI mo_ps) (nI mo_fr) mo_sort mo_value (nI mo_ft) mo_wrongAt mo_row mo_orderMany (nI mo_fo) mo_lightest mo_heaviest mo_before mo_justSum mo_toldSum mo_allWays mo_lanes mo_sizes mo_cells mo_torn mo_had, oqI k mo_tape 160 (upd tf ((nI mo_tl).toNatClampNeg) ch)] := hD
      refine lv_aload_n hx hb dX8_feed_37 rfl (lv_at hl 0 rfl) ?_
      refine lv_dup hx hb dX8_feed_38 rfl ?_
      refine va_get (D := D) (ci := 7) (v := .int (nI mo_tl)) (C := RX8) (T := TX8) (N := 32) hx hb hts hiX8 hown hK hP 0 rfl rfl 11 (Nat.le_of_ble_eq_true rfl) fl75 (fun _ h9 => h9) rfl dX8_feed_39 ?_
      refine lv_iconst (v := 1) hx hb dX8_feed_42 hki_1 ?_
      refine lv_iadd hx hb dX8_feed_43 ?_
      refine hs_topi (nI (mo_tl + 1)) (nI_add (mo_tl) (1)) ?_
      refine va_put (D := D) (ci := 7) (v := .int (nI (mo_tl + 1))) (ty := .int) (C := RX8) (T := TX8) (N := 32) hx hb hts hiX8 tyX8 tyX8_ok nmX8 hown hK hP hD hS 0 rfl rfl 11 (Nat.le_of_ble_eq_true rfl) fl75 (fun _ h9 => h9) rfl (by decide +kernel) rfl rfl (Nat.le_of_ble_eq_true rfl) dX8_feed_44 (fun H locs hP hD hS => ?_)
      have hP : va_P D vwCl [oq7 mo mo_st mo_at mo_isKept (nI mo_pe) (nI mo_hm) mo_draft (nI mo_dp) (nI mo_dh) mo_toldLines mo_highest mo_tape (nI (mo_tl + 1)) (nI mo_ps) (nI mo_fr) mo_sort mo_value (nI mo_ft) mo_wrongAt mo_row mo_orderMany (nI mo_fo) mo_lightest mo_heaviest mo_before mo_justSum mo_toldSum mo_allWays mo_lanes mo_sizes mo_cells mo_torn mo_had, _] H := hP
      have hD : va_D A [oq7 mo mo_st mo_at mo_isKept (nI mo_pe) (nI mo_hm) mo_draft (nI mo_dp) (nI mo_dh) mo_toldLines mo_highest mo_tape (nI (mo_tl + 1)) (nI mo_ps) (nI mo_fr) mo_sort mo_value (nI mo_ft) mo_wrongAt mo_row mo_orderMany (nI mo_fo) mo_lightest mo_heaviest mo_before mo_justSum mo_toldSum mo_allWays mo_lanes mo_sizes mo_cells mo_torn mo_had, _] := hD
      refine lv_aload_n hx hb dX8_feed_47 rfl (lv_at hl 0 rfl) ?_
      refine va_get (D := D) (ci := 7) (v := .int (nI (mo_tl + 1))) (C := RX8) (T := TX8) (N := 32) hx hb hts hiX8 hown hK hP 0 rfl rfl 11 (Nat.le_of_ble_eq_true rfl) fl75 (fun _ h9 => h9) rfl dX8_feed_48 ?_
      exact hs_iret hx hb hr hlocks hK hP hD hS (mo_tl + 1, upd tf ((nI mo_tl).toNatClampNeg) ch) [0, 1] rfl (hs_upnd rfl) dX8_feed_51 (⟨by rw [A_feedG, if_pos (hs_nb c_4), if_neg (show ¬ 160 ≤ mo_tl by omega)], by rw [A_feedL, if_pos (hs_nb c_4), if_neg (show ¬ 160 ≤ mo_tl by omega)], by (try dsimp only); omega, by (try dsimp only); rw [A_feedT, if_pos (hs_nb c_4), if_neg (show ¬ 160 ≤ mo_tl by omega), nI_clamp (by omega)]⟩)
    · have nc_5 : mo_tl = 160 := (nI_eq (a := mo_tl) (b := 160) (by omega) (by omega)).mp c_5
      refine lv_bipush (v := (-3)) hx hb dX8_feed_24 hkb_m3 ?_
      exact hs_iret hx hb hr hlocks hK hP hD hS (mo_tl, tf) [0, 1] rfl (hs_upnd rfl) dX8_feed_26 (⟨by rw [A_feedG, if_pos (hs_nb c_4), if_pos (show 160 ≤ mo_tl by omega)], by rw [A_feedL, if_pos (hs_nb c_4), if_pos (show 160 ≤ mo_tl by omega)], by (try dsimp only); omega, by rw [A_feedT, if_pos (hs_nb c_4), if_pos (show 160 ≤ mo_tl by omega)]⟩)
  · refine lv_iconst (v := (-1)) hx hb dX8_feed_12 hki_m1 ?_
    exact hs_iret hx hb hr hlocks hK hP hD hS (mo_tl, tf) [0, 1] rfl (hs_upnd rfl) dX8_feed_13 (⟨by rw [A_feedG, hs_n0 c_4]; rfl, by rw [A_feedL, hs_n0 c_4]; rfl, by (try dsimp only); omega, by rw [A_feedT, hs_n0 c_4]; rfl⟩)

set_option maxHeartbeats 4000000 in
set_option maxRecDepth 100000 in
theorem gqf_sheet (l : Launch) (D : va_G) (k : Nat → ClassId) (sz : Nat) (mo : Nat) (mo_st : Nat) (mo_at : Nat) (mo_isKept : Nat) (mo_pe : Nat) (mo_hm : Nat) (mo_draft : Nat) (mo_dp : Nat) (mo_dh : Nat) (mo_toldLines : Int32) (mo_highest : Int32) (mo_tape : Nat) (mo_tl : Nat) (mo_ps : Nat) (mo_fr : Nat) (mo_sort : Int32) (mo_value : Int32) (mo_ft : Nat) (mo_wrongAt : Int32) (mo_row : Nat) (mo_orderMany : Int32) (mo_fo : Nat) (mo_lightest : Int32) (mo_heaviest : Int32) (mo_before : Nat) (mo_justSum : Int64) (mo_toldSum : Int64) (mo_allWays : Int64) (mo_lanes : Nat) (mo_sizes : Nat) (mo_cells : Nat) (mo_torn : Int32) (mo_had : Nat) (laf : Nat → Int32) (sif : Nat → Int32) (ce : Nat → Int32) (i : Int32) (v : Int32) (n : Int32)  : MI l yX8_sheet wsX8_sheet ({ frames := 2, cells := 0, slots := 0, locals := 46 }) D k [.ref mo, .int i, .int v, .int n] [oq7 mo mo_st mo_at mo_isKept (nI mo_pe) (nI mo_hm) mo_draft (nI mo_dp) (nI mo_dh) mo_toldLines mo_highest mo_tape (nI mo_tl) (nI mo_ps) (nI mo_fr) mo_sort mo_value (nI mo_ft) mo_wrongAt mo_row mo_orderMany (nI mo_fo) mo_lightest mo_heaviest mo_before mo_justSum mo_toldSum mo_allWays mo_lanes mo_sizes mo_cells mo_torn mo_had, oqI k mo_lanes 4 (laf), oqI k mo_sizes 4 (sif), oqI k mo_cells 160 (ce)] sz (fun (r : Int32) (u : (Nat → Int32) × (Nat → Int32) × (Nat → Int32)) => r = A_sheet i v n ∧ ((r = 1 ∧ u.1 = upd laf i.toNatClampNeg v ∧ u.2.1 = upd sif i.toNatClampNeg n ∧ ∃ k : Nat, k < 4 ∧ i = nI k ∧ (∀ j, j < 40 → u.2.2 (40 * k + j) = 0) ∧ ∀ q, ¬ (40 * k ≤ q ∧ q < 40 * k + 40) → u.2.2 q = ce q) ∨ (¬ r = 1 ∧ u.1 = laf ∧ u.2.1 = sif ∧ u.2.2 = ce))) (fun (u : (Nat → Int32) × (Nat → Int32) × (Nat → Int32)) => [oq7 mo mo_st mo_at mo_isKept (nI mo_pe) (nI mo_hm) mo_draft (nI mo_dp) (nI mo_dh) mo_toldLines mo_highest mo_tape (nI mo_tl) (nI mo_ps) (nI mo_fr) mo_sort mo_value (nI mo_ft) mo_wrongAt mo_row mo_orderMany (nI mo_fo) mo_lightest mo_heaviest mo_before mo_justSum mo_toldSum mo_allWays mo_lanes mo_sizes mo_cells mo_torn mo_had, oqI k mo_lanes 4 (u.1), oqI k mo_sizes 4 (u.2.1), oqI k mo_cells 160 (u.2.2)]) := by
  refine Met.ofW (cc := cX8_sheet) (maxL := 5) (ret := (some .int)) hpn_X8 rfl ?_
  intro p e s m args below meth c s₁ B hml hv
  obtain ⟨rfl, hsz, hP, hK, hD0, hN⟩ := hv
  have hx := B.exec
  have hb := B.bytes
  have hr := B.returns
  have hlocks := B.notSynchronized
  have hts := atoms_spec (ws := wsX8_sheet) B.pre
  have hown := findClass_of_methodNamed B.named
  have hown : s.vm.findClass RX8 = some m.cls := hown
  have hiX8 : ∀ w ∈ u_ws RX8 TX8 32, w ∈ wsX8_sheet := fun w9 hw9 => List.mem_cons_of_mem _ (igX8 w9 hw9)
  have fl32 := hts (.fieldLink RX8 32 "HalfScalesModel" "lanes" "[I") (List.mem_cons_of_mem _ (hs_inG 4 107 rfl rfl))
  have fl35 := hts (.fieldLink RX8 35 "HalfScalesModel" "sizes" "[I") (List.mem_cons_of_mem _ (hs_inG 4 108 rfl rfl))
  have fl38 := hts (.fieldLink RX8 38 "HalfScalesModel" "cells" "[I") (List.mem_cons_of_mem _ (hs_inG 4 109 rfl rfl))
  subst hsz
  have hD := hD0.self (sz := s.heap.size)
  generalize hAe : va_A [oq7 mo mo_st mo_at mo_isKept (nI mo_pe) (nI mo_hm) mo_draft (nI mo_dp) (nI mo_dh) mo_toldLines mo_highest mo_tape (nI mo_tl) (nI mo_ps) (nI mo_fr) mo_sort mo_value (nI mo_ft) mo_wrongAt mo_row mo_orderMany (nI mo_fo) mo_lightest mo_heaviest mo_before mo_justSum mo_toldSum mo_allWays mo_lanes mo_sizes mo_cells mo_torn mo_had, oqI k mo_lanes 4 (laf), oqI k mo_sizes 4 (sif), oqI k mo_cells 160 (ce)] s.heap.size = A at hD ⊢
  have hA : ∀ q : Nat, s.heap.size ≤ q → A q := fun q h => by rw [← hAe]; exact Or.inr h
  have hS : va_S A s.heap s.heap [] := va_S.rf
  have hl := lv_entry ([.ref mo, .int i, .int v, .int n]) (n := 5) (Nat.le_of_ble_eq_true rfl)
  rw [lg_entry_eq]
  generalize (lg_sl ([.ref mo, .int i, .int v, .int n]) ++ List.replicate (5 - (lg_sl ([.ref mo, .int i, .int v, .int n])).length) Slot.unset).toArray = ls at hl ⊢
  have hl : lv_has ls 5 [(0, .ref mo), (1, .int i), (2, .int v), (3, .int n)] := hl
  have hP : va_P D vwCl [oq7 mo mo_st mo_at mo_isKept (nI mo_pe) (nI mo_hm) mo_draft (nI mo_dp) (nI mo_dh) mo_toldLines mo_highest mo_tape (nI mo_tl) (nI mo_ps) (nI mo_fr) mo_sort mo_value (nI mo_ft) mo_wrongAt mo_row mo_orderMany (nI mo_fo) mo_lightest mo_heaviest mo_before mo_justSum mo_toldSum mo_allWays mo_lanes mo_sizes mo_cells mo_torn mo_had, oqI k mo_lanes 4 (laf), oqI k mo_sizes 4 (sif), oqI k mo_cells 160 (ce)] s.heap := hP
  refine lv_iload_n hx hb dX8_sheet_0 rfl (lv_at hl 1 rfl) ?_
  refine lv_iload_n hx hb dX8_sheet_1 rfl (lv_at hl 2 rfl) ?_
  refine hs_pi (va_runS (As := [.int i, .int v]) (rest := []) ⟨hx, hb, hml, hown, hts⟩ (gm_isSheet l D k _ i v) (va_cwS 2 hts gX8_sheet_X8_isSheet rfl rfl rfl hq_X8_isSheet ⟨Nat.le_of_ble_eq_true rfl, Nat.le_of_ble_eq_true rfl⟩) (hs_preS hK hN (hs_subP (w := []) hP [] rfl) (hD.sub (ws' := []) [] rfl rfl)) rfl rfl hl.1 rfl (lv_room (Nat.le_of_ble_eq_true rfl)) dX8_sheet_2 ⟨Nat.le_of_ble_eq_true rfl, Nat.le_of_ble_eq_true rfl⟩) hP hD hS hA (fun r_1 u_3 H locs hw_2 hP hS => ?_)
  refine hs_topi (hsb (hsin i 0 3 && hsin v 0 2)) hw_2 ?_
  refine lv_if_eq (tgt := 14) hx hb dX8_sheet_5 rfl (fun c_4 => ?_) (fun c_4 => ?_)
  · refine lv_iconst (v := (-1)) hx hb dX8_sheet_14 hki_m1 ?_
    exact hs_iret hx hb hr hlocks hK hP hD hS (laf, sif, ce) [0, 1, 2, 3] rfl (hs_upnd rfl) dX8_sheet_15 (⟨by first | rfl | decide | (simp only [hsb_0, hsb_1] at c_4; simp [A_sheet, c_4]; done) | (simp [A_sheet, c_4]; done), Or.inr ⟨by decide, rfl, rfl, rfl⟩⟩)
  · rcases hs_v03 <| hs_and1 (hs_nb c_4) with rfl | rfl | rfl | rfl
    · refine lv_iload_n hx hb dX8_sheet_8 rfl (lv_at hl 3 rfl) ?_
      refine lv_bipush (v := 40) hx hb dX8_sheet_9 hkb_40 ?_
      refine lv_icmp_le (tgt := 16) hx hb dX8_sheet_11 rfl (fun c_5 => ?_) (fun c_5 => ?_)
      · refine lv_iload_n hx hb dX8_sheet_16 rfl (lv_at hl 3 rfl) ?_
        refine lv_if_ge (tgt := 23) hx hb dX8_sheet_17 rfl (fun c_6 => ?_) (fun c_6 => ?_)
        · obtain ⟨nn, hnn, rfl⟩ := nI_of2 (M := 40) (n := 40) (by decide) (Int32.not_lt.mpr c_6) c_5
          refine lv_aload_n hx hb dX8_sheet_23 rfl (lv_at hl 0 rfl) ?_
          refine va_get (D := D) (ci := 7) (v := .ref mo_lanes) (C := RX8) (T := TX8) (N := 32) hx hb hts hiX8 hown hK hP 0 rfl rfl 27 (Nat.le_of_ble_eq_true rfl) fl32 (fun _ h9 => h9) rfl dX8_sheet_24 ?_
          refine lv_iload_n hx hb dX8_sheet_27 rfl (lv_at hl 1 rfl) ?_
          refine lv_iload_n hx hb dX8_sheet_28 rfl (lv_at hl 2 rfl) ?_
          refine va_iast hx hb hK hP hD hS 1 0 rfl rfl (hs_in (by decide)) dX8_sheet_29 (fun H locs hP hD hS => ?_)
          have hP : va_P D vwCl [oq7 mo mo_st mo_at mo_isKept (nI mo_pe) (nI mo_hm) mo_draft (nI mo_dp) (nI mo_dh) mo_toldLines mo_highest mo_tape (nI mo_tl) (nI mo_ps) (nI mo_fr) mo_sort mo_value (nI mo_ft) mo_wrongAt mo_row mo_orderMany (nI mo_fo) mo_lightest mo_heaviest mo_before mo_justSum mo_toldSum mo_allWays mo_lanes mo_sizes mo_cells mo_torn mo_had, oqI k mo_lanes 4 (upd laf 0 v), oqI k mo_sizes 4 (sif), oqI k mo_cells 160 (ce)] H := hP
          have hD : va_D A [oq7 mo mo_st mo_at mo_isKept (nI mo_pe) (nI mo_hm) mo_draft (nI mo_dp) (nI mo_dh) mo_toldLines mo_highest mo_tape (nI mo_tl) (nI mo_ps) (nI mo_fr) mo_sort mo_value (nI mo_ft) mo_wrongAt mo_row mo_orderMany (nI mo_fo) mo_lightest mo_heaviest mo_before mo_justSum mo_toldSum mo_allWays mo_lanes mo_sizes mo_cells mo_torn mo_had, oqI k mo_lanes 4 (upd laf 0 v), oqI k mo_sizes 4 (sif), oqI k mo_cells 160 (ce)] := hD
          refine lv_aload_n hx hb dX8_sheet_30 rfl (lv_at hl 0 rfl) ?_
          refine va_get (D := D) (ci := 7) (v := .ref mo_sizes) (C := RX8) (T := TX8) (N := 32) hx hb hts hiX8 hown hK hP 0 rfl rfl 28 (Nat.le_of_ble_eq_true rfl) fl35 (fun _ h9 => h9) rfl dX8_sheet_31 ?_
          refine lv_iload_n hx hb dX8_sheet_34 rfl (lv_at hl 1 rfl) ?_
          refine lv_iload_n hx hb dX8_sheet_35 rfl (lv_at hl 3 rfl) ?_
          refine va_iast hx hb hK hP hD hS 2 0 rfl rfl (hs_in (by decide)) dX8_sheet_36 (fun H locs hP hD hS => ?_)
          have hP : va_P D vwCl [_, _, oqI k mo_sizes 4 (upd sif 0 (nI nn)), _] H := hP
          have hD : va_D A [_, _, oqI k mo_sizes 4 (upd sif 0 (nI nn)), _] := hD
          refine lv_iconst (v := 0) hx hb dX8_sheet_37 hki_0 ?_
          refine lv_istore (lv' := [(4, .int 0), (0, .ref mo), (1, .int 0), (2, .int v), (3, .int (nI nn))]) hx hb dX8_sheet_38 hl (Nat.le_of_ble_eq_true rfl) rfl (fun ls hl => ?_)
          refine hs_while (σ := Nat × (Nat → Int32)) (fun x => x.1 ≤ 40 ∧ (∀ j, j < x.1 → x.2 (40 * 0 + j) = 0) ∧ ∀ q, ¬ (40 * 0 ≤ q ∧ q < 40 * 0 + 40) → x.2 q = ce q) (fun x => 40 - x.1) (fun x => [oq7 mo mo_st mo_at mo_isKept (nI mo_pe) (nI mo_hm) mo_draft (nI mo_dp) (nI mo_dh) mo_toldLines mo_highest mo_tape (nI mo_tl) (nI mo_ps) (nI mo_fr) mo_sort mo_value (nI mo_ft) mo_wrongAt mo_row mo_orderMany (nI mo_fo) mo_lightest mo_heaviest mo_before mo_justSum mo_toldSum mo_allWays mo_lanes mo_sizes mo_cells mo_torn mo_had, oqI k mo_lanes 4 (upd laf 0 v), oqI k mo_sizes 4 (upd sif 0 (nI nn)), oqI k mo_cells 160 ((x.2))]) (fun x => [(4, .int (nI (x.1))), (0, .ref mo), (1, .int 0), (2, .int v), (3, .int (nI nn))]) ?_ (0, ce) ?_ hP hD hS hl
          · intro x hI ih40 H locs ls hP hD hS hl
            obtain ⟨x4, cg⟩ := x
            try dsimp only at hI
            have hP : va_P D vwCl [_, _, _, oqI k mo_cells 160 (cg)] H := hP
            have hD : va_D A [_, _, _, oqI k mo_cells 160 (cg)] := hD
            have hl : lv_has ls 5 [(4, .int (nI x4)), (0, .ref mo), (1, .int 0), (2, .int v), (3, .int (nI nn))] := hl
            refine lv_iload hx hb dX8_sheet_40 (lv_at hl 0 rfl) ?_
            refine lv_bipush (v := 40) hx hb dX8_sheet_42 hkb_40 ?_
            refine lv_icmp_ge (tgt := 66) hx hb dX8_sheet_44 rfl (fun c_7 => ?_) (fun c_7 => ?_)
            · have nc_7 : 40 ≤ x4 := (nI_leI (a := 40) (b := x4) (by omega) (by omega)).mp c_7
              refine lv_iconst (v := 1) hx hb dX8_sheet_66 hki_1 ?_
              exact hs_iret hx hb hr hlocks hK hP hD hS (upd laf 0 v, upd sif 0 (nI nn), cg) [0, 1, 2, 3] rfl (hs_upnd rfl) dX8_sheet_67 (⟨by first | rfl | decide | (simp only [hsb_0, hsb_1] at c_4 c_5 c_6 c_7; simp [A_sheet, c_4, c_5, c_6, c_7]; done) | (simp [A_sheet, c_4, c_5, c_6, c_7]; done), Or.inl ⟨rfl, rfl, rfl, 0, by decide, rfl, fun j hj => hI.2.1 j (by omega), hI.2.2⟩⟩)
            · have nc_7 : ¬ 40 ≤ x4 := fun hq9 => c_7 ((nI_leI (a := 40) (b := x4) (by omega) (by omega)).mpr hq9)
              refine lv_aload_n hx hb dX8_sheet_47 rfl (lv_at hl 1 rfl) ?_
              refine va_get (D := D) (ci := 7) (v := .ref mo_cells) (C := RX8) (T := TX8) (N := 32) hx hb hts hiX8 hown hK hP 0 rfl rfl 29 (Nat.le_of_ble_eq_true rfl) fl38 (fun _ h9 => h9) rfl dX8_sheet_48 ?_
              refine lv_bipush (v := 40) hx hb dX8_sheet_51 hkb_40 ?_
              refine lv_iload_n hx hb dX8_sheet_53 rfl (lv_at hl 2 rfl) ?_
              refine lv_imul hx hb dX8_sheet_54 ?_
              refine hs_topi 0 (by first | rfl | decide +kernel) ?_
              refine lv_iload hx hb dX8_sheet_55 (lv_at hl 0 rfl) ?_
              refine lv_iadd hx hb dX8_sheet_57 ?_
              refine hs_topi (nI (0 + x4)) (nI_add (0) (x4)) ?_
              refine lv_iconst (v := 0) hx hb dX8_sheet_58 hki_0 ?_
              refine va_iast hx hb hK hP hD hS 3 0 rfl rfl (vp_in_nI (show (0 + x4) < 160 by omega) (by decide)) dX8_sheet_59 (fun H locs hP hD hS => ?_)
              have hP : va_P D vwCl [_, _, _, oqI k mo_cells 160 (upd cg ((nI (0 + x4)).toNatClampNeg) 0)] H := hP
              have hD : va_D A [_, _, _, oqI k mo_cells 160 (upd cg ((nI (0 + x4)).toNatClampNeg) 0)] := hD
              refine lv_iinc (v := nI (x4 + 1)) (lv' := [(4, .int (nI (x4 + 1))), (0, .ref mo), (1, .int 0), (2, .int v), (3, .int (nI nn))]) hx hb dX8_sheet_60 hl (k := 0) rfl (nI_add (x4) 1) (Nat.le_of_ble_eq_true rfl) rfl (fun ls hl => ?_)
              refine lv_goto (tgt := 40) hx hb dX8_sheet_63 rfl ?_
              exact ih40 (x4 + 1, upd cg ((nI (0 + x4)).toNatClampNeg) 0) (by (try dsimp only); exact ⟨by omega, fun j hj => if e9 : j = x4 then hs_ue (by omega) (by omega) else (hs_uc (by omega) (by omega)).trans (hI.2.1 j (by omega)), fun q hq => (hs_uc (by omega) (by omega)).trans (hI.2.2 q hq)⟩) (by (try dsimp only); omega) _ _ _ hP hD hS (lv_sub hl [0, 1, 2, 3, 4] rfl)
          · (try dsimp only); exact ⟨Nat.zero_le _, fun j hj => absurd hj (Nat.not_lt_zero j), fun _ _ => rfl⟩
        · refine lv_bipush (v := (-14)) hx hb dX8_sheet_20 hkb_m14 ?_
          exact hs_iret hx hb hr hlocks hK hP hD hS (laf, sif, ce) [0, 1, 2, 3] rfl (hs_upnd rfl) dX8_sheet_22 (⟨by first | rfl | decide | (simp only [hsb_0, hsb_1] at c_4 c_5 c_6; simp [A_sheet, c_4, c_5, c_6]; done) | (simp [A_sheet, c_4, c_5, c_6]; done), Or.inr ⟨by decide, rfl, rfl, rfl⟩⟩)
      · refine lv_iconst (v := (-1)) hx hb dX8_sheet_14 hki_m1 ?_
        exact hs_iret hx hb hr hlocks hK hP hD hS (laf, sif, ce) [0, 1, 2, 3] rfl (hs_upnd rfl) dX8_sheet_15 (⟨by first | rfl | decide | (simp only [hsb_0, hsb_1] at c_4 c_5; simp [A_sheet, c_4, c_5]; done) | (simp [A_sheet, c_4, c_5]; done), Or.inr ⟨by decide, rfl, rfl, rfl⟩⟩)
    · refine lv_iload_n hx hb dX8_sheet_8 rfl (lv_at hl 3 rfl) ?_
      refine lv_bipush (v := 40) hx hb dX8_sheet_9 hkb_40 ?_
      refine lv_icmp_le (tgt := 16) hx hb dX8_sheet_11 rfl (fun c_8 => ?_) (fun c_8 => ?_)
      · refine lv_iload_n hx hb dX8_sheet_16 rfl (lv_at hl 3 rfl) ?_
        refine lv_if_ge (tgt := 23) hx hb dX8_sheet_17 rfl (fun c_9 => ?_) (fun c_9 => ?_)
        · obtain ⟨nn, hnn, rfl⟩ := nI_of2 (M := 40) (n := 40) (by decide) (Int32.not_lt.mpr c_9) c_8
          refine lv_aload_n hx hb dX8_sheet_23 rfl (lv_at hl 0 rfl) ?_
          refine va_get (D := D) (ci := 7) (v := .ref mo_lanes) (C := RX8) (T := TX8) (N := 32) hx hb hts hiX8 hown hK hP 0 rfl rfl 27 (Nat.le_of_ble_eq_true rfl) fl32 (fun _ h9 => h9) rfl dX8_sheet_24 ?_
          refine lv_iload_n hx hb dX8_sheet_27 rfl (lv_at hl 1 rfl) ?_
          refine lv_iload_n hx hb dX8_sheet_28 rfl (lv_at hl 2 rfl) ?_
          refine va_iast hx hb hK hP hD hS 1 0 rfl rfl (hs_in (by decide)) dX8_sheet_29 (fun H locs hP hD hS => ?_)
          have hP : va_P D vwCl [_, oqI k mo_lanes 4 (upd laf 1 v), oqI k mo_sizes 4 (sif), oqI k mo_cells 160 (ce)] H := hP
          have hD : va_D A [_, oqI k mo_lanes 4 (upd laf 1 v), oqI k mo_sizes 4 (sif), oqI k mo_cells 160 (ce)] := hD
          refine lv_aload_n hx hb dX8_sheet_30 rfl (lv_at hl 0 rfl) ?_
          refine va_get (D := D) (ci := 7) (v := .ref mo_sizes) (C := RX8) (T := TX8) (N := 32) hx hb hts hiX8 hown hK hP 0 rfl rfl 28 (Nat.le_of_ble_eq_true rfl) fl35 (fun _ h9 => h9) rfl dX8_sheet_31 ?_
          refine lv_iload_n hx hb dX8_sheet_34 rfl (lv_at hl 1 rfl) ?_
          refine lv_iload_n hx hb dX8_sheet_35 rfl (lv_at hl 3 rfl) ?_
          refine va_iast hx hb hK hP hD hS 2 0 rfl rfl (hs_in (by decide)) dX8_sheet_36 (fun H locs hP hD hS => ?_)
          have hP : va_P D vwCl [_, _, oqI k mo_sizes 4 (upd sif 1 (nI nn)), _] H := hP
          have hD : va_D A [_, _, oqI k mo_sizes 4 (upd sif 1 (nI nn)), _] := hD
          refine lv_iconst (v := 0) hx hb dX8_sheet_37 hki_0 ?_
          refine lv_istore (lv' := [(4, .int 0), (0, .ref mo), (1, .int 1), (2, .int v), (3, .int (nI nn))]) hx hb dX8_sheet_38 hl (Nat.le_of_ble_eq_true rfl) rfl (fun ls hl => ?_)
          refine hs_while (σ := Nat × (Nat → Int32)) (fun x => x.1 ≤ 40 ∧ (∀ j, j < x.1 → x.2 (40 * 1 + j) = 0) ∧ ∀ q, ¬ (40 * 1 ≤ q ∧ q < 40 * 1 + 40) → x.2 q = ce q) (fun x => 40 - x.1) (fun x => [oq7 mo mo_st mo_at mo_isKept (nI mo_pe) (nI mo_hm) mo_draft (nI mo_dp) (nI mo_dh) mo_toldLines mo_highest mo_tape (nI mo_tl) (nI mo_ps) (nI mo_fr) mo_sort mo_value (nI mo_ft) mo_wrongAt mo_row mo_orderMany (nI mo_fo) mo_lightest mo_heaviest mo_before mo_justSum mo_toldSum mo_allWays mo_lanes mo_sizes mo_cells mo_torn mo_had, oqI k mo_lanes 4 (upd laf 1 v), oqI k mo_sizes 4 (upd sif 1 (nI nn)), oqI k mo_cells 160 ((x.2))]) (fun x => [(4, .int (nI (x.1))), (0, .ref mo), (1, .int 1), (2, .int v), (3, .int (nI nn))]) ?_ (0, ce) ?_ hP hD hS hl
          · intro x hI ih40 H locs ls hP hD hS hl
            obtain ⟨x4, cg⟩ := x
            try dsimp only at hI
            have hP : va_P D vwCl [_, _, _, oqI k mo_cells 160 (cg)] H := hP
            have hD : va_D A [_, _, _, oqI k mo_cells 160 (cg)] := hD
            have hl : lv_has ls 5 [(4, .int (nI x4)), (0, .ref mo), (1, .int 1), (2, .int v), (3, .int (nI nn))] := hl
            refine lv_iload hx hb dX8_sheet_40 (lv_at hl 0 rfl) ?_
            refine lv_bipush (v := 40) hx hb dX8_sheet_42 hkb_40 ?_
            refine lv_icmp_ge (tgt := 66) hx hb dX8_sheet_44 rfl (fun c_10 => ?_) (fun c_10 => ?_)
            · have nc_10 : 40 ≤ x4 := (nI_leI (a := 40) (b := x4) (by omega) (by omega)).mp c_10
              refine lv_iconst (v := 1) hx hb dX8_sheet_66 hki_1 ?_
              exact hs_iret hx hb hr hlocks hK hP hD hS (upd laf 1 v, upd sif 1 (nI nn), cg) [0, 1, 2, 3] rfl (hs_upnd rfl) dX8_sheet_67 (⟨by first | rfl | decide | (simp only [hsb_0, hsb_1] at c_4 c_8 c_9 c_10; simp [A_sheet, c_4, c_8, c_9, c_10]; done) | (simp [A_sheet, c_4, c_8, c_9, c_10]; done), Or.inl ⟨rfl, rfl, rfl, 1, by decide, rfl, fun j hj => hI.2.1 j (by omega), hI.2.2⟩⟩)
            · have nc_10 : ¬ 40 ≤ x4 := fun hq9 => c_10 ((nI_leI (a := 40) (b := x4) (by omega) (by omega)).mpr hq9)
              refine lv_aload_n hx hb dX8_sheet_47 rfl (lv_at hl 1 rfl) ?_
              refine va_get (D := D) (ci := 7) (v := .ref mo_cells) (C := RX8) (T := TX8) (N := 32) hx hb hts hiX8 hown hK hP 0 rfl rfl 29 (Nat.le_of_ble_eq_true rfl) fl38 (fun _ h9 => h9) rfl dX8_sheet_48 ?_
              refine lv_bipush (v := 40) hx hb dX8_sheet_51 hkb_40 ?_
              refine lv_iload_n hx hb dX8_sheet_53 rfl (lv_at hl 2 rfl) ?_
              refine lv_imul hx hb dX8_sheet_54 ?_
              refine hs_topi 40 (by first | rfl | decide +kernel) ?_
              refine lv_iload hx hb dX8_sheet_55 (lv_at hl 0 rfl) ?_
              refine lv_iadd hx hb dX8_sheet_57 ?_
              refine hs_topi (nI (40 + x4)) (nI_add (40) (x4)) ?_
              refine lv_iconst (v := 0) hx hb dX8_sheet_58 hki_0 ?_
              refine va_iast hx hb hK hP hD hS 3 0 rfl rfl (vp_in_nI (show (40 + x4) < 160 by omega) (by decide)) dX8_sheet_59 (fun H locs hP hD hS => ?_)
              have hP : va_P D vwCl [_, _, _, oqI k mo_cells 160 (upd cg ((nI (40 + x4)).toNatClampNeg) 0)] H := hP
              have hD : va_D A [_, _, _, oqI k mo_cells 160 (upd cg ((nI (40 + x4)).toNatClampNeg) 0)] := hD
              refine lv_iinc (v := nI (x4 + 1)) (lv' := [(4, .int (nI (x4 + 1))), (0, .ref mo), (1, .int 1), (2, .int v), (3, .int (nI nn))]) hx hb dX8_sheet_60 hl (k := 0) rfl (nI_add (x4) 1) (Nat.le_of_ble_eq_true rfl) rfl (fun ls hl => ?_)
              refine lv_goto (tgt := 40) hx hb dX8_sheet_63 rfl ?_
              exact ih40 (x4 + 1, upd cg ((nI (40 + x4)).toNatClampNeg) 0) (by (try dsimp only); exact ⟨by omega, fun j hj => if e9 : j = x4 then hs_ue (by omega) (by omega) else (hs_uc (by omega) (by omega)).trans (hI.2.1 j (by omega)), fun q hq => (hs_uc (by omega) (by omega)).trans (hI.2.2 q hq)⟩) (by (try dsimp only); omega) _ _ _ hP hD hS (lv_sub hl [0, 1, 2, 3, 4] rfl)
          · (try dsimp only); exact ⟨Nat.zero_le _, fun j hj => absurd hj (Nat.not_lt_zero j), fun _ _ => rfl⟩
        · refine lv_bipush (v := (-14)) hx hb dX8_sheet_20 hkb_m14 ?_
          exact hs_iret hx hb hr hlocks hK hP hD hS (laf, sif, ce) [0, 1, 2, 3] rfl (hs_upnd rfl) dX8_sheet_22 (⟨by first | rfl | decide | (simp only [hsb_0, hsb_1] at c_4 c_8 c_9; simp [A_sheet, c_4, c_8, c_9]; done) | (simp [A_sheet, c_4, c_8, c_9]; done), Or.inr ⟨by decide, rfl, rfl, rfl⟩⟩)
      · refine lv_iconst (v := (-1)) hx hb dX8_sheet_14 hki_m1 ?_
        exact hs_iret hx hb hr hlocks hK hP hD hS (laf, sif, ce) [0, 1, 2, 3] rfl (hs_upnd rfl) dX8_sheet_15 (⟨by first | rfl | decide | (simp only [hsb_0, hsb_1] at c_4 c_8; simp [A_sheet, c_4, c_8]; done) | (simp [A_sheet, c_4, c_8]; done), Or.inr ⟨by decide, rfl, rfl, rfl⟩⟩)
    · refine lv_iload_n hx hb dX8_sheet_8 rfl (lv_at hl 3 rfl) ?_
      refine lv_bipush (v := 40) hx hb dX8_sheet_9 hkb_40 ?_
      refine lv_icmp_le (tgt := 16) hx hb dX8_sheet_11 rfl (fun c_11 => ?_) (fun c_11 => ?_)
      · refine lv_iload_n hx hb dX8_sheet_16 rfl (lv_at hl 3 rfl) ?_
        refine lv_if_ge (tgt := 23) hx hb dX8_sheet_17 rfl (fun c_12 => ?_) (fun c_12 => ?_)
        · obtain ⟨nn, hnn, rfl⟩ := nI_of2 (M := 40) (n := 40) (by decide) (Int32.not_lt.mpr c_12) c_11
          refine lv_aload_n hx hb dX8_sheet_23 rfl (lv_at hl 0 rfl) ?_
          refine va_get (D := D) (ci := 7) (v := .ref mo_lanes) (C := RX8) (T := TX8) (N := 32) hx hb hts hiX8 hown hK hP 0 rfl rfl 27 (Nat.le_of_ble_eq_true rfl) fl32 (fun _ h9 => h9) rfl dX8_sheet_24 ?_
          refine lv_iload_n hx hb dX8_sheet_27 rfl (lv_at hl 1 rfl) ?_
          refine lv_iload_n hx hb dX8_sheet_28 rfl (lv_at hl 2 rfl) ?_
          refine va_iast hx hb hK hP hD hS 1 0 rfl rfl (hs_in (by decide)) dX8_sheet_29 (fun H locs hP hD hS => ?_)
          have hP : va_P D vwCl [_, oqI k mo_lanes 4 (upd laf 2 v), oqI k mo_sizes 4 (sif), oqI k mo_cells 160 (ce)] H := hP
          have hD : va_D A [_, oqI k mo_lanes 4 (upd laf 2 v), oqI k mo_sizes 4 (sif), oqI k mo_cells 160 (ce)] := hD
          refine lv_aload_n hx hb dX8_sheet_30 rfl (lv_at hl 0 rfl) ?_
          refine va_get (D := D) (ci := 7) (v := .ref mo_sizes) (C := RX8) (T := TX8) (N := 32) hx hb hts hiX8 hown hK hP 0 rfl rfl 28 (Nat.le_of_ble_eq_true rfl) fl35 (fun _ h9 => h9) rfl dX8_sheet_31 ?_
          refine lv_iload_n hx hb dX8_sheet_34 rfl (lv_at hl 1 rfl) ?_
          refine lv_iload_n hx hb dX8_sheet_35 rfl (lv_at hl 3 rfl) ?_
          refine va_iast hx hb hK hP hD hS 2 0 rfl rfl (hs_in (by decide)) dX8_sheet_36 (fun H locs hP hD hS => ?_)
          have hP : va_P D vwCl [_, _, oqI k mo_sizes 4 (upd sif 2 (nI nn)), _] H := hP
          have hD : va_D A [_, _, oqI k mo_sizes 4 (upd sif 2 (nI nn)), _] := hD
          refine lv_iconst (v := 0) hx hb dX8_sheet_37 hki_0 ?_
          refine lv_istore (lv' := [(4, .int 0), (0, .ref mo), (1, .int 2), (2, .int v), (3, .int (nI nn))]) hx hb dX8_sheet_38 hl (Nat.le_of_ble_eq_true rfl) rfl (fun ls hl => ?_)
          refine hs_while (σ := Nat × (Nat → Int32)) (fun x => x.1 ≤ 40 ∧ (∀ j, j < x.1 → x.2 (40 * 2 + j) = 0) ∧ ∀ q, ¬ (40 * 2 ≤ q ∧ q < 40 * 2 + 40) → x.2 q = ce q) (fun x => 40 - x.1) (fun x => [oq7 mo mo_st mo_at mo_isKept (nI mo_pe) (nI mo_hm) mo_draft (nI mo_dp) (nI mo_dh) mo_toldLines mo_highest mo_tape (nI mo_tl) (nI mo_ps) (nI mo_fr) mo_sort mo_value (nI mo_ft) mo_wrongAt mo_row mo_orderMany (nI mo_fo) mo_lightest mo_heaviest mo_before mo_justSum mo_toldSum mo_allWays mo_lanes mo_sizes mo_cells mo_torn mo_had, oqI k mo_lanes 4 (upd laf 2 v), oqI k mo_sizes 4 (upd sif 2 (nI nn)), oqI k mo_cells 160 ((x.2))]) (fun x => [(4, .int (nI (x.1))), (0, .ref mo), (1, .int 2), (2, .int v), (3, .int (nI nn))]) ?_ (0, ce) ?_ hP hD hS hl
          · intro x hI ih40 H locs ls hP hD hS hl
            obtain ⟨x4, cg⟩ := x
            try dsimp only at hI
            have hP : va_P D vwCl [_, _, _, oqI k mo_cells 160 (cg)] H := hP
            have hD : va_D A [_, _, _, oqI k mo_cells 160 (cg)] := hD
            have hl : lv_has ls 5 [(4, .int (nI x4)), (0, .ref mo), (1, .int 2), (2, .int v), (3, .int (nI nn))] := hl
            refine lv_iload hx hb dX8_sheet_40 (lv_at hl 0 rfl) ?_
            refine lv_bipush (v := 40) hx hb dX8_sheet_42 hkb_40 ?_
            refine lv_icmp_ge (tgt := 66) hx hb dX8_sheet_44 rfl (fun c_13 => ?_) (fun c_13 => ?_)
            · have nc_13 : 40 ≤ x4 := (nI_leI (a := 40) (b := x4) (by omega) (by omega)).mp c_13
              refine lv_iconst (v := 1) hx hb dX8_sheet_66 hki_1 ?_
              exact hs_iret hx hb hr hlocks hK hP hD hS (upd laf 2 v, upd sif 2 (nI nn), cg) [0, 1, 2, 3] rfl (hs_upnd rfl) dX8_sheet_67 (⟨by first | rfl | decide | (simp only [hsb_0, hsb_1] at c_4 c_11 c_12 c_13; simp [A_sheet, c_4, c_11, c_12, c_13]; done) | (simp [A_sheet, c_4, c_11, c_12, c_13]; done), Or.inl ⟨rfl, rfl, rfl, 2, by decide, rfl, fun j hj => hI.2.1 j (by omega), hI.2.2⟩⟩)
            · have nc_13 : ¬ 40 ≤ x4 := fun hq9 => c_13 ((nI_leI (a := 40) (b := x4) (by omega) (by omega)).mpr hq9)
              refine lv_aload_n hx hb dX8_sheet_47 rfl (lv_at hl 1 rfl) ?_
              refine va_get (D := D) (ci := 7) (v := .ref mo_cells) (C := RX8) (T := TX8) (N := 32) hx hb hts hiX8 hown hK hP 0 rfl rfl 29 (Nat.le_of_ble_eq_true rfl) fl38 (fun _ h9 => h9) rfl dX8_sheet_48 ?_
              refine lv_bipush (v := 40) hx hb dX8_sheet_51 hkb_40 ?_
              refine lv_iload_n hx hb dX8_sheet_53 rfl (lv_at hl 2 rfl) ?_
              refine lv_imul hx hb dX8_sheet_54 ?_
              refine hs_topi 80 (by first | rfl | decide +kernel) ?_
              refine lv_iload hx hb dX8_sheet_55 (lv_at hl 0 rfl) ?_
              refine lv_iadd hx hb dX8_sheet_57 ?_
              refine hs_topi (nI (80 + x4)) (nI_add (80) (x4)) ?_
              refine lv_iconst (v := 0) hx hb dX8_sheet_58 hki_0 ?_
              refine va_iast hx hb hK hP hD hS 3 0 rfl rfl (vp_in_nI (show (80 + x4) < 160 by omega) (by decide)) dX8_sheet_59 (fun H locs hP hD hS => ?_)
              have hP : va_P D vwCl [_, _, _, oqI k mo_cells 160 (upd cg ((nI (80 + x4)).toNatClampNeg) 0)] H := hP
              have hD : va_D A [_, _, _, oqI k mo_cells 160 (upd cg ((nI (80 + x4)).toNatClampNeg) 0)] := hD
              refine lv_iinc (v := nI (x4 + 1)) (lv' := [(4, .int (nI (x4 + 1))), (0, .ref mo), (1, .int 2), (2, .int v), (3, .int (nI nn))]) hx hb dX8_sheet_60 hl (k := 0) rfl (nI_add (x4) 1) (Nat.le_of_ble_eq_true rfl) rfl (fun ls hl => ?_)
              refine lv_goto (tgt := 40) hx hb dX8_sheet_63 rfl ?_
              exact ih40 (x4 + 1, upd cg ((nI (80 + x4)).toNatClampNeg) 0) (by (try dsimp only); exact ⟨by omega, fun j hj => if e9 : j = x4 then hs_ue (by omega) (by omega) else (hs_uc (by omega) (by omega)).trans (hI.2.1 j (by omega)), fun q hq => (hs_uc (by omega) (by omega)).trans (hI.2.2 q hq)⟩) (by (try dsimp only); omega) _ _ _ hP hD hS (lv_sub hl [0, 1, 2, 3, 4] rfl)
          · (try dsimp only); exact ⟨Nat.zero_le _, fun j hj => absurd hj (Nat.not_lt_zero j), fun _ _ => rfl⟩
        · refine lv_bipush (v := (-14)) hx hb dX8_sheet_20 hkb_m14 ?_
          exact hs_iret hx hb hr hlocks hK hP hD hS (laf, sif, ce) [0, 1, 2, 3] rfl (hs_upnd rfl) dX8_sheet_22 (⟨by first | rfl | decide | (simp only [hsb_0, hsb_1] at c_4 c_11 c_12; simp [A_sheet, c_4, c_11, c_12]; done) | (simp [A_sheet, c_4, c_11, c_12]; done), Or.inr ⟨by decide, rfl, rfl, rfl⟩⟩)
      · refine lv_iconst (v := (-1)) hx hb dX8_sheet_14 hki_m1 ?_
        exact hs_iret hx hb hr hlocks hK hP hD hS (laf, sif, ce) [0, 1, 2, 3] rfl (hs_upnd rfl) dX8_sheet_15 (⟨by first | rfl | decide | (simp only [hsb_0, hsb_1] at c_4 c_11; simp [A_sheet, c_4, c_11]; done) | (simp [A_sheet, c_4, c_11]; done), Or.inr ⟨by decide, rfl, rfl, rfl⟩⟩)
    · refine lv_iload_n hx hb dX8_sheet_8 rfl (lv_at hl 3 rfl) ?_
      refine lv_bipush (v := 40) hx hb dX8_sheet_9 hkb_40 ?_
      refine lv_icmp_le (tgt := 16) hx hb dX8_sheet_11 rfl (fun c_14 => ?_) (fun c_14 => ?_)
      · refine lv_iload_n hx hb dX8_sheet_16 rfl (lv_at hl 3 rfl) ?_
        refine lv_if_ge (tgt := 23) hx hb dX8_sheet_17 rfl (fun c_15 => ?_) (fun c_15 => ?_)
        · obtain ⟨nn, hnn, rfl⟩ := nI_of2 (M := 40) (n := 40) (by decide) (Int32.not_lt.mpr c_15) c_14
          refine lv_aload_n hx hb dX8_sheet_23 rfl (lv_at hl 0 rfl) ?_
          refine va_get (D := D) (ci := 7) (v := .ref mo_lanes) (C := RX8) (T := TX8) (N := 32) hx hb hts hiX8 hown hK hP 0 rfl rfl 27 (Nat.le_of_ble_eq_true rfl) fl32 (fun _ h9 => h9) rfl dX8_sheet_24 ?_
          refine lv_iload_n hx hb dX8_sheet_27 rfl (lv_at hl 1 rfl) ?_
          refine lv_iload_n hx hb dX8_sheet_28 rfl (lv_at hl 2 rfl) ?_
          refine va_iast hx hb hK hP hD hS 1 0 rfl rfl (hs_in (by decide)) dX8_sheet_29 (fun H locs hP hD hS => ?_)
          have hP : va_P D vwCl [_, oqI k mo_lanes 4 (upd laf 3 v), oqI k mo_sizes 4 (sif), oqI k mo_cells 160 (ce)] H := hP
          have hD : va_D A [_, oqI k mo_lanes 4 (upd laf 3 v), oqI k mo_sizes 4 (sif), oqI k mo_cells 160 (ce)] := hD
          refine lv_aload_n hx hb dX8_sheet_30 rfl (lv_at hl 0 rfl) ?_
          refine va_get (D := D) (ci := 7) (v := .ref mo_sizes) (C := RX8) (T := TX8) (N := 32) hx hb hts hiX8 hown hK hP 0 rfl rfl 28 (Nat.le_of_ble_eq_true rfl) fl35 (fun _ h9 => h9) rfl dX8_sheet_31 ?_
          refine lv_iload_n hx hb dX8_sheet_34 rfl (lv_at hl 1 rfl) ?_
          refine lv_iload_n hx hb dX8_sheet_35 rfl (lv_at hl 3 rfl) ?_
          refine va_iast hx hb hK hP hD hS 2 0 rfl rfl (hs_in (by decide)) dX8_sheet_36 (fun H locs hP hD hS => ?_)
          have hP : va_P D vwCl [_, _, oqI k mo_sizes 4 (upd sif 3 (nI nn)), _] H := hP
          have hD : va_D A [_, _, oqI k mo_sizes 4 (upd sif 3 (nI nn)), _] := hD
          refine lv_iconst (v := 0) hx hb dX8_sheet_37 hki_0 ?_
          refine lv_istore (lv' := [(4, .int 0), (0, .ref mo), (1, .int 3), (2, .int v), (3, .int (nI nn))]) hx hb dX8_sheet_38 hl (Nat.le_of_ble_eq_true rfl) rfl (fun ls hl => ?_)
          refine hs_while (σ := Nat × (Nat → Int32)) (fun x => x.1 ≤ 40 ∧ (∀ j, j < x.1 → x.2 (40 * 3 + j) = 0) ∧ ∀ q, ¬ (40 * 3 ≤ q ∧ q < 40 * 3 + 40) → x.2 q = ce q) (fun x => 40 - x.1) (fun x => [oq7 mo mo_st mo_at mo_isKept (nI mo_pe) (nI mo_hm) mo_draft (nI mo_dp) (nI mo_dh) mo_toldLines mo_highest mo_tape (nI mo_tl) (nI mo_ps) (nI mo_fr) mo_sort mo_value (nI mo_ft) mo_wrongAt mo_row mo_orderMany (nI mo_fo) mo_lightest mo_heaviest mo_before mo_justSum mo_toldSum mo_allWays mo_lanes mo_sizes mo_cells mo_torn mo_had, oqI k mo_lanes 4 (upd laf 3 v), oqI k mo_sizes 4 (upd sif 3 (nI nn)), oqI k mo_cells 160 ((x.2))]) (fun x => [(4, .int (nI (x.1))), (0, .ref mo), (1, .int 3), (2, .int v), (3, .int (nI nn))]) ?_ (0, ce) ?_ hP hD hS hl
          · intro x hI ih40 H locs ls hP hD hS hl
            obtain ⟨x4, cg⟩ := x
            try dsimp only at hI
            have hP : va_P D vwCl [_, _, _, oqI k mo_cells 160 (cg)] H := hP
            have hD : va_D A [_, _, _, oqI k mo_cells 160 (cg)] := hD
            have hl : lv_has ls 5 [(4, .int (nI x4)), (0, .ref mo), (1, .int 3), (2, .int v), (3, .int (nI nn))] := hl
            refine lv_iload hx hb dX8_sheet_40 (lv_at hl 0 rfl) ?_
            refine lv_bipush (v := 40) hx hb dX8_sheet_42 hkb_40 ?_
            refine lv_icmp_ge (tgt := 66) hx hb dX8_sheet_44 rfl (fun c_16 => ?_) (fun c_16 => ?_)
            · have nc_16 : 40 ≤ x4 := (nI_leI (a := 40) (b := x4) (by omega) (by omega)).mp c_16
              refine lv_iconst (v := 1) hx hb dX8_sheet_66 hki_1 ?_
              exact hs_iret hx hb hr hlocks hK hP hD hS (upd laf 3 v, upd sif 3 (nI nn), cg) [0, 1, 2, 3] rfl (hs_upnd rfl) dX8_sheet_67 (⟨by first | rfl | decide | (simp only [hsb_0, hsb_1] at c_4 c_14 c_15 c_16; simp [A_sheet, c_4, c_14, c_15, c_16]; done) | (simp [A_sheet, c_4, c_14, c_15, c_16]; done), Or.inl ⟨rfl, rfl, rfl, 3, by decide, rfl, fun j hj => hI.2.1 j (by omega), hI.2.2⟩⟩)
            · have nc_16 : ¬ 40 ≤ x4 := fun hq9 => c_16 ((nI_leI (a := 40) (b := x4) (by omega) (by omega)).mpr hq9)
              refine lv_aload_n hx hb dX8_sheet_47 rfl (lv_at hl 1 rfl) ?_
              refine va_get (D := D) (ci := 7) (v := .ref mo_cells) (C := RX8) (T := TX8) (N := 32) hx hb hts hiX8 hown hK hP 0 rfl rfl 29 (Nat.le_of_ble_eq_true rfl) fl38 (fun _ h9 => h9) rfl dX8_sheet_48 ?_
              refine lv_bipush (v := 40) hx hb dX8_sheet_51 hkb_40 ?_
              refine lv_iload_n hx hb dX8_sheet_53 rfl (lv_at hl 2 rfl) ?_
              refine lv_imul hx hb dX8_sheet_54 ?_
              refine hs_topi 120 (by first | rfl | decide +kernel) ?_
              refine lv_iload hx hb dX8_sheet_55 (lv_at hl 0 rfl) ?_
              refine lv_iadd hx hb dX8_sheet_57 ?_
              refine hs_topi (nI (120 + x4)) (nI_add (120) (x4)) ?_
              refine lv_iconst (v := 0) hx hb dX8_sheet_58 hki_0 ?_
              refine va_iast hx hb hK hP hD hS 3 0 rfl rfl (vp_in_nI (show (120 + x4) < 160 by omega) (by decide)) dX8_sheet_59 (fun H locs hP hD hS => ?_)
              have hP : va_P D vwCl [_, _, _, oqI k mo_cells 160 (upd cg ((nI (120 + x4)).toNatClampNeg) 0)] H := hP
              have hD : va_D A [_, _, _, oqI k mo_cells 160 (upd cg ((nI (120 + x4)).toNatClampNeg) 0)] := hD
              refine lv_iinc (v := nI (x4 + 1)) (lv' := [(4, .int (nI (x4 + 1))), (0, .ref mo), (1, .int 3), (2, .int v), (3, .int (nI nn))]) hx hb dX8_sheet_60 hl (k := 0) rfl (nI_add (x4) 1) (Nat.le_of_ble_eq_true rfl) rfl (fun ls hl => ?_)
              refine lv_goto (tgt := 40) hx hb dX8_sheet_63 rfl ?_
              exact ih40 (x4 + 1, upd cg ((nI (120 + x4)).toNatClampNeg) 0) (by (try dsimp only); exact ⟨by omega, fun j hj => if e9 : j = x4 then hs_ue (by omega) (by omega) else (hs_uc (by omega) (by omega)).trans (hI.2.1 j (by omega)), fun q hq => (hs_uc (by omega) (by omega)).trans (hI.2.2 q hq)⟩) (by (try dsimp only); omega) _ _ _ hP hD hS (lv_sub hl [0, 1, 2, 3, 4] rfl)
          · (try dsimp only); exact ⟨Nat.zero_le _, fun j hj => absurd hj (Nat.not_lt_zero j), fun _ _ => rfl⟩
        · refine lv_bipush (v := (-14)) hx hb dX8_sheet_20 hkb_m14 ?_
          exact hs_iret hx hb hr hlocks hK hP hD hS (laf, sif, ce) [0, 1, 2, 3] rfl (hs_upnd rfl) dX8_sheet_22 (⟨by first | rfl | decide | (simp only [hsb_0, hsb_1] at c_4 c_14 c_15; simp [A_sheet, c_4, c_14, c_15]; done) | (simp [A_sheet, c_4, c_14, c_15]; done), Or.inr ⟨by decide, rfl, rfl, rfl⟩⟩)
      · refine lv_iconst (v := (-1)) hx hb dX8_sheet_14 hki_m1 ?_
        exact hs_iret hx hb hr hlocks hK hP hD hS (laf, sif, ce) [0, 1, 2, 3] rfl (hs_upnd rfl) dX8_sheet_15 (⟨by first | rfl | decide | (simp only [hsb_0, hsb_1] at c_4 c_14; simp [A_sheet, c_4, c_14]; done) | (simp [A_sheet, c_4, c_14]; done), Or.inr ⟨by decide, rfl, rfl, rfl⟩⟩)
