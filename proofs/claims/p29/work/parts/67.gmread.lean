/-- the draft keeps its bounds -/
def drS (f : Nat → Int32) : Prop := (∃ c : Nat, f 0 = nI c ∧ 2 ≤ c ∧ c ≤ 8) ∧ (∃ d : Nat, f 16 = nI d ∧ d ≤ 8) ∧ (∃ e : Nat, f 14 = nI e ∧ e ≤ 99) ∧ f 25 = 0
/-- a state (its first 44 places) keeps its bounds -/
def rfS (f : Nat → Int32) : Prop := ∃ c0 c3 c4 fi : Nat, f 0 = nI c0 ∧ 2 ≤ c0 ∧ c0 ≤ 8 ∧ f 16 = nI c3 ∧ c3 ≤ 8 ∧ f 25 = nI c4 ∧ c4 ≤ 6 ∧ f 14 = nI fi ∧ fi ≤ 99 ∧ ∀ i, i < c4 → vp_in (f (26 + 3 * i)) 4
theorem rfS_of_draft {f g : Nat → Int32} (h : drS f) (e : ∀ q, q < 44 → g q = f q) : rfS g := by
  obtain ⟨⟨c, ec, h2, h8⟩, ⟨d, ed, hd⟩, ⟨x, ex, hx⟩, e25⟩ := h
  exact ⟨c, d, 0, x, (e 0 (by decide)).trans ec, h2, h8, (e 16 (by decide)).trans ed, hd, (e 25 (by decide)).trans e25, by decide, (e 14 (by decide)).trans ex, hx, fun i hi => absurd hi (Nat.not_lt_zero i)⟩
theorem rfS_same {f g : Nat → Int32} (h : rfS f) (e : ∀ q, q < 44 → g q = f q) : rfS g := by
  obtain ⟨c0, c3, c4, fi, e0, h2, h8, e3, h3, e4, h4, ef, hf, hs⟩ := h
  exact ⟨c0, c3, c4, fi, (e 0 (by decide)).trans e0, h2, h8, (e 16 (by decide)).trans e3, h3, (e 25 (by decide)).trans e4, h4, (e 14 (by decide)).trans ef, hf, fun i hi => by rw [e (26 + 3 * i) (by omega)]; exact hs i hi⟩

set_option maxHeartbeats 4000000 in
set_option maxRecDepth 100000 in
theorem gm_keepDraft (l : Launch) (D : va_G) (k : Nat → ClassId) (sz : Nat) (mo : Nat) (mo_st : Nat) (mo_at : Nat) (mo_isKept : Nat) (mo_pe : Nat) (mo_hm : Nat) (mo_draft : Nat) (mo_dp : Nat) (mo_dh : Nat) (mo_toldLines : Int32) (mo_highest : Int32) (mo_tape : Nat) (mo_tl : Nat) (mo_ps : Nat) (mo_fr : Nat) (mo_sort : Int32) (mo_value : Int32) (mo_ft : Nat) (mo_wrongAt : Int32) (mo_row : Nat) (mo_orderMany : Int32) (mo_fo : Nat) (mo_lightest : Int32) (mo_heaviest : Int32) (mo_before : Nat) (mo_justSum : Int64) (mo_toldSum : Int64) (mo_allWays : Int64) (mo_lanes : Nat) (mo_sizes : Nat) (mo_cells : Nat) (mo_torn : Int32) (mo_had : Nat) (sf : Nat → Int32) (df : Nat → Int32) (kf : Nat → Int32)  : MV l yX8_keepDraft wsX8_keepDraft ({ frames := 0, cells := 0, slots := 0, locals := 0 }) D k [.ref mo] [oq7 mo mo_st mo_at mo_isKept (nI mo_pe) (nI mo_hm) mo_draft (nI mo_dp) (nI mo_dh) mo_toldLines mo_highest mo_tape (nI mo_tl) (nI mo_ps) (nI mo_fr) mo_sort mo_value (nI mo_ft) mo_wrongAt mo_row mo_orderMany (nI mo_fo) mo_lightest mo_heaviest mo_before mo_justSum mo_toldSum mo_allWays mo_lanes mo_sizes mo_cells mo_torn mo_had, oqI k mo_st 132 (sf), oqI k mo_draft 44 (df), oqB k mo_isKept 2 (kf)] sz (fun (u : Nat → Int32) => (∀ q, q < 44 → u q = df q) ∧ ∀ q, 44 ≤ q → u q = sf q) (fun (u : Nat → Int32) => [oq7 mo mo_st mo_at mo_isKept (nI mo_dp) (nI mo_dh) mo_draft (nI mo_dp) (nI mo_dh) mo_toldLines mo_highest mo_tape (nI mo_tl) (nI mo_ps) (nI mo_fr) mo_sort mo_value (nI mo_ft) mo_wrongAt mo_row mo_orderMany (nI mo_fo) mo_lightest mo_heaviest mo_before mo_justSum mo_toldSum mo_allWays mo_lanes mo_sizes mo_cells mo_torn mo_had, oqI k mo_st 132 (u), oqI k mo_draft 44 (df), oqB k mo_isKept 2 (upd (upd kf 0 0) 1 0)]) := by
  refine Met.ofW (cc := cX8_keepDraft) (maxL := 2) (ret := none) hpn_X8 rfl ?_
  intro p e s m args below meth c s₁ B hml hv
  obtain ⟨rfl, hsz, hP, hK, hD0, hN⟩ := hv
  have hx := B.exec
  have hb := B.bytes
  have hr := B.returns
  have hlocks := B.notSynchronized
  have hts := atoms_spec (ws := wsX8_keepDraft) B.pre
  have hown := findClass_of_methodNamed B.named
  have hown : s.vm.findClass RX8 = some m.cls := hown
  have hiX8 : ∀ w ∈ u_ws RX8 TX8 32, w ∈ wsX8_keepDraft := fun w9 hw9 => List.mem_cons_of_mem _ (igX8 w9 hw9)
  have fl50 := hts (.fieldLink RX8 50 "HalfScalesModel" "dPeople" "I") (List.mem_cons_of_mem _ (hs_inG 4 86 rfl rfl))
  have fl63 := hts (.fieldLink RX8 63 "HalfScalesModel" "people" "I") (List.mem_cons_of_mem _ (hs_inG 4 83 rfl rfl))
  have fl54 := hts (.fieldLink RX8 54 "HalfScalesModel" "dHalves" "I") (List.mem_cons_of_mem _ (hs_inG 4 87 rfl rfl))
  have fl66 := hts (.fieldLink RX8 66 "HalfScalesModel" "halfMany" "I") (List.mem_cons_of_mem _ (hs_inG 4 84 rfl rfl))
  have fl16 := hts (.fieldLink RX8 16 "HalfScalesModel" "isKept" "[Z") (List.mem_cons_of_mem _ (hs_inG 4 82 rfl rfl))
  have fl7 := hts (.fieldLink RX8 7 "HalfScalesModel" "st" "[I") (List.mem_cons_of_mem _ (hs_inG 4 80 rfl rfl))
  have fl20 := hts (.fieldLink RX8 20 "HalfScalesModel" "draft" "[I") (List.mem_cons_of_mem _ (hs_inG 4 85 rfl rfl))
  subst hsz
  have hD := hD0.self (sz := s.heap.size)
  generalize hAe : va_A [oq7 mo mo_st mo_at mo_isKept (nI mo_pe) (nI mo_hm) mo_draft (nI mo_dp) (nI mo_dh) mo_toldLines mo_highest mo_tape (nI mo_tl) (nI mo_ps) (nI mo_fr) mo_sort mo_value (nI mo_ft) mo_wrongAt mo_row mo_orderMany (nI mo_fo) mo_lightest mo_heaviest mo_before mo_justSum mo_toldSum mo_allWays mo_lanes mo_sizes mo_cells mo_torn mo_had, oqI k mo_st 132 (sf), oqI k mo_draft 44 (df), oqB k mo_isKept 2 (kf)] s.heap.size = A at hD ⊢
  have hA : ∀ q : Nat, s.heap.size ≤ q → A q := fun q h => by rw [← hAe]; exact Or.inr h
  have hS : va_S A s.heap s.heap [] := va_S.rf
  have hl := lv_entry ([.ref mo]) (n := 2) (Nat.le_of_ble_eq_true rfl)
  rw [lg_entry_eq]
  generalize (lg_sl ([.ref mo]) ++ List.replicate (2 - (lg_sl ([.ref mo])).length) Slot.unset).toArray = ls at hl ⊢
  have hl : lv_has ls 2 [(0, .ref mo)] := hl
  have hP : va_P D vwCl [oq7 mo mo_st mo_at mo_isKept (nI mo_pe) (nI mo_hm) mo_draft (nI mo_dp) (nI mo_dh) mo_toldLines mo_highest mo_tape (nI mo_tl) (nI mo_ps) (nI mo_fr) mo_sort mo_value (nI mo_ft) mo_wrongAt mo_row mo_orderMany (nI mo_fo) mo_lightest mo_heaviest mo_before mo_justSum mo_toldSum mo_allWays mo_lanes mo_sizes mo_cells mo_torn mo_had, oqI k mo_st 132 (sf), oqI k mo_draft 44 (df), oqB k mo_isKept 2 (kf)] s.heap := hP
  refine lv_iconst (v := 0) hx hb dX8_keepDraft_0 hki_0 ?_
  refine lv_istore_n (lv' := [(1, .int 0), (0, .ref mo)]) hx hb dX8_keepDraft_1 rfl hl (Nat.le_of_ble_eq_true rfl) rfl (fun ls hl => ?_)
  refine hs_while (σ := Nat × (Nat → Int32)) (fun x => x.1 ≤ 44 ∧ (∀ j, j < x.1 → x.2 j = df j) ∧ ∀ j, 44 ≤ j → x.2 j = sf j) (fun x => 44 - x.1) (fun x => [oq7 mo mo_st mo_at mo_isKept (nI mo_pe) (nI mo_hm) mo_draft (nI mo_dp) (nI mo_dh) mo_toldLines mo_highest mo_tape (nI mo_tl) (nI mo_ps) (nI mo_fr) mo_sort mo_value (nI mo_ft) mo_wrongAt mo_row mo_orderMany (nI mo_fo) mo_lightest mo_heaviest mo_before mo_justSum mo_toldSum mo_allWays mo_lanes mo_sizes mo_cells mo_torn mo_had, oqI k mo_st 132 ((x.2)), oqI k mo_draft 44 (df), oqB k mo_isKept 2 (kf)]) (fun x => [(1, .int (nI (x.1))), (0, .ref mo)]) ?_ (0, sf) ?_ hP hD hS hl
  · intro x hI ih2 H locs ls hP hD hS hl
    obtain ⟨i, g⟩ := x
    try dsimp only at hI
    have hP : va_P D vwCl [oq7 mo mo_st mo_at mo_isKept (nI mo_pe) (nI mo_hm) mo_draft (nI mo_dp) (nI mo_dh) mo_toldLines mo_highest mo_tape (nI mo_tl) (nI mo_ps) (nI mo_fr) mo_sort mo_value (nI mo_ft) mo_wrongAt mo_row mo_orderMany (nI mo_fo) mo_lightest mo_heaviest mo_before mo_justSum mo_toldSum mo_allWays mo_lanes mo_sizes mo_cells mo_torn mo_had, oqI k mo_st 132 (g), oqI k mo_draft 44 (df), oqB k mo_isKept 2 (kf)] H := hP
    have hD : va_D A [oq7 mo mo_st mo_at mo_isKept (nI mo_pe) (nI mo_hm) mo_draft (nI mo_dp) (nI mo_dh) mo_toldLines mo_highest mo_tape (nI mo_tl) (nI mo_ps) (nI mo_fr) mo_sort mo_value (nI mo_ft) mo_wrongAt mo_row mo_orderMany (nI mo_fo) mo_lightest mo_heaviest mo_before mo_justSum mo_toldSum mo_allWays mo_lanes mo_sizes mo_cells mo_torn mo_had, oqI k mo_st 132 (g), oqI k mo_draft 44 (df), oqB k mo_isKept 2 (kf)] := hD
    have hl : lv_has ls 2 [(1, .int (nI i)), (0, .ref mo)] := hl
    refine lv_iload_n hx hb dX8_keepDraft_2 rfl (lv_at hl 0 rfl) ?_
    refine lv_bipush (v := 44) hx hb dX8_keepDraft_3 hkb_44 ?_
    refine lv_icmp_ge (tgt := 26) hx hb dX8_keepDraft_5 rfl (fun c_1 => ?_) (fun c_1 => ?_)
    · have nc_1 : 44 ≤ i := (nI_leI (a := 44) (b := i) (by omega) (by omega)).mp c_1
      refine lv_aload_n hx hb dX8_keepDraft_26 rfl (lv_at hl 1 rfl) ?_
      refine lv_aload_n hx hb dX8_keepDraft_27 rfl (lv_at hl 1 rfl) ?_
      refine va_get (D := D) (ci := 7) (v := .int (nI mo_dp)) (C := RX8) (T := TX8) (N := 32) hx hb hts hiX8 hown hK hP 0 rfl rfl 6 (Nat.le_of_ble_eq_true rfl) fl50 (fun _ h9 => h9) rfl dX8_keepDraft_28 ?_
      refine va_put (D := D) (ci := 7) (v := .int (nI mo_dp)) (ty := .int) (C := RX8) (T := TX8) (N := 32) hx hb hts hiX8 tyX8 tyX8_ok nmX8 hown hK hP hD hS 0 rfl rfl 3 (Nat.le_of_ble_eq_true rfl) fl63 (fun _ h9 => h9) rfl (by decide +kernel) rfl rfl (Nat.le_of_ble_eq_true rfl) dX8_keepDraft_31 (fun H locs hP hD hS => ?_)
      have hP : va_P D vwCl [oq7 mo mo_st mo_at mo_isKept (nI mo_dp) (nI mo_hm) mo_draft (nI mo_dp) (nI mo_dh) mo_toldLines mo_highest mo_tape (nI mo_tl) (nI mo_ps) (nI mo_fr) mo_sort mo_value (nI mo_ft) mo_wrongAt mo_row mo_orderMany (nI mo_fo) mo_lightest mo_heaviest mo_before mo_justSum mo_toldSum mo_allWays mo_lanes mo_sizes mo_cells mo_torn mo_had, _, _, _] H := hP
      have hD : va_D A [oq7 mo mo_st mo_at mo_isKept (nI mo_dp) (nI mo_hm) mo_draft (nI mo_dp) (nI mo_dh) mo_toldLines mo_highest mo_tape (nI mo_tl) (nI mo_ps) (nI mo_fr) mo_sort mo_value (nI mo_ft) mo_wrongAt mo_row mo_orderMany (nI mo_fo) mo_lightest mo_heaviest mo_before mo_justSum mo_toldSum mo_allWays mo_lanes mo_sizes mo_cells mo_torn mo_had, _, _, _] := hD
      refine lv_aload_n hx hb dX8_keepDraft_34 rfl (lv_at hl 1 rfl) ?_
      refine lv_aload_n hx hb dX8_keepDraft_35 rfl (lv_at hl 1 rfl) ?_
      refine va_get (D := D) (ci := 7) (v := .int (nI mo_dh)) (C := RX8) (T := TX8) (N := 32) hx hb hts hiX8 hown hK hP 0 rfl rfl 7 (Nat.le_of_ble_eq_true rfl) fl54 (fun _ h9 => h9) rfl dX8_keepDraft_36 ?_
      refine va_put (D := D) (ci := 7) (v := .int (nI mo_dh)) (ty := .int) (C := RX8) (T := TX8) (N := 32) hx hb hts hiX8 tyX8 tyX8_ok nmX8 hown hK hP hD hS 0 rfl rfl 4 (Nat.le_of_ble_eq_true rfl) fl66 (fun _ h9 => h9) rfl (by decide +kernel) rfl rfl (Nat.le_of_ble_eq_true rfl) dX8_keepDraft_39 (fun H locs hP hD hS => ?_)
      have hP : va_P D vwCl [oq7 mo mo_st mo_at mo_isKept (nI mo_dp) (nI mo_dh) mo_draft (nI mo_dp) (nI mo_dh) mo_toldLines mo_highest mo_tape (nI mo_tl) (nI mo_ps) (nI mo_fr) mo_sort mo_value (nI mo_ft) mo_wrongAt mo_row mo_orderMany (nI mo_fo) mo_lightest mo_heaviest mo_before mo_justSum mo_toldSum mo_allWays mo_lanes mo_sizes mo_cells mo_torn mo_had, _, _, _] H := hP
      have hD : va_D A [oq7 mo mo_st mo_at mo_isKept (nI mo_dp) (nI mo_dh) mo_draft (nI mo_dp) (nI mo_dh) mo_toldLines mo_highest mo_tape (nI mo_tl) (nI mo_ps) (nI mo_fr) mo_sort mo_value (nI mo_ft) mo_wrongAt mo_row mo_orderMany (nI mo_fo) mo_lightest mo_heaviest mo_before mo_justSum mo_toldSum mo_allWays mo_lanes mo_sizes mo_cells mo_torn mo_had, _, _, _] := hD
      refine lv_aload_n hx hb dX8_keepDraft_42 rfl (lv_at hl 1 rfl) ?_
      refine va_get (D := D) (ci := 7) (v := .ref mo_isKept) (C := RX8) (T := TX8) (N := 32) hx hb hts hiX8 hown hK hP 0 rfl rfl 2 (Nat.le_of_ble_eq_true rfl) fl16 (fun _ h9 => h9) rfl dX8_keepDraft_43 ?_
      refine lv_iconst (v := 0) hx hb dX8_keepDraft_46 hki_0 ?_
      refine lv_iconst (v := 0) hx hb dX8_keepDraft_47 hki_0 ?_
      refine va_zast hx hb hK hP hD hS 3 2 rfl rfl (hs_in (by decide)) dX8_keepDraft_48 (fun H locs hP hD hS => ?_)
      have hP : va_P D vwCl [_, _, _, oqB k mo_isKept 2 (upd kf 0 0)] H := hP
      have hD : va_D A [_, _, _, oqB k mo_isKept 2 (upd kf 0 0)] := hD
      refine lv_aload_n hx hb dX8_keepDraft_49 rfl (lv_at hl 1 rfl) ?_
      refine va_get (D := D) (ci := 7) (v := .ref mo_isKept) (C := RX8) (T := TX8) (N := 32) hx hb hts hiX8 hown hK hP 0 rfl rfl 2 (Nat.le_of_ble_eq_true rfl) fl16 (fun _ h9 => h9) rfl dX8_keepDraft_50 ?_
      refine lv_iconst (v := 1) hx hb dX8_keepDraft_53 hki_1 ?_
      refine lv_iconst (v := 0) hx hb dX8_keepDraft_54 hki_0 ?_
      refine va_zast hx hb hK hP hD hS 3 2 rfl rfl (hs_in (by decide)) dX8_keepDraft_55 (fun H locs hP hD hS => ?_)
      have hP : va_P D vwCl [_, _, _, oqB k mo_isKept 2 (upd (upd kf 0 0) 1 0)] H := hP
      have hD : va_D A [_, _, _, oqB k mo_isKept 2 (upd (upd kf 0 0) 1 0)] := hD
      exact hs_vret hx hb hr hlocks hK hP hD hS g [0, 1, 2, 3] rfl (hs_upnd rfl) dX8_keepDraft_56 (⟨fun j hj => hI.2.1 j (by omega), hI.2.2⟩)
    · have nc_1 : ¬ 44 ≤ i := fun hq9 => c_1 ((nI_leI (a := 44) (b := i) (by omega) (by omega)).mpr hq9)
      refine lv_aload_n hx hb dX8_keepDraft_8 rfl (lv_at hl 1 rfl) ?_
      refine va_get (D := D) (ci := 7) (v := .ref mo_st) (C := RX8) (T := TX8) (N := 32) hx hb hts hiX8 hown hK hP 0 rfl rfl 0 (Nat.le_of_ble_eq_true rfl) fl7 (fun _ h9 => h9) rfl dX8_keepDraft_9 ?_
      refine lv_iload_n hx hb dX8_keepDraft_12 rfl (lv_at hl 0 rfl) ?_
      refine lv_aload_n hx hb dX8_keepDraft_13 rfl (lv_at hl 1 rfl) ?_
      refine va_get (D := D) (ci := 7) (v := .ref mo_draft) (C := RX8) (T := TX8) (N := 32) hx hb hts hiX8 hown hK hP 0 rfl rfl 5 (Nat.le_of_ble_eq_true rfl) fl20 (fun _ h9 => h9) rfl dX8_keepDraft_14 ?_
      refine lv_iload_n hx hb dX8_keepDraft_17 rfl (lv_at hl 0 rfl) ?_
      refine va_iald hx hb hK hP 2 0 rfl rfl (vp_in_nI (show i < 44 by omega) (by decide)) dX8_keepDraft_18 ?_
      refine va_iast hx hb hK hP hD hS 1 0 rfl rfl (vp_in_nI (show i < 132 by omega) (by decide)) dX8_keepDraft_19 (fun H locs hP hD hS => ?_)
      have hP : va_P D vwCl [oq7 mo mo_st mo_at mo_isKept (nI mo_pe) (nI mo_hm) mo_draft (nI mo_dp) (nI mo_dh) mo_toldLines mo_highest mo_tape (nI mo_tl) (nI mo_ps) (nI mo_fr) mo_sort mo_value (nI mo_ft) mo_wrongAt mo_row mo_orderMany (nI mo_fo) mo_lightest mo_heaviest mo_before mo_justSum mo_toldSum mo_allWays mo_lanes mo_sizes mo_cells mo_torn mo_had, oqI k mo_st 132 (upd g ((nI i).toNatClampNeg) (df (nI i).toNatClampNeg)), _, oqB k mo_isKept 2 (kf)] H := hP
      have hD : va_D A [oq7 mo mo_st mo_at mo_isKept (nI mo_pe) (nI mo_hm) mo_draft (nI mo_dp) (nI mo_dh) mo_toldLines mo_highest mo_tape (nI mo_tl) (nI mo_ps) (nI mo_fr) mo_sort mo_value (nI mo_ft) mo_wrongAt mo_row mo_orderMany (nI mo_fo) mo_lightest mo_heaviest mo_before mo_justSum mo_toldSum mo_allWays mo_lanes mo_sizes mo_cells mo_torn mo_had, oqI k mo_st 132 (upd g ((nI i).toNatClampNeg) (df (nI i).toNatClampNeg)), _, oqB k mo_isKept 2 (kf)] := hD
      refine lv_iinc (v := nI (i + 1)) (lv' := [(1, .int (nI (i + 1))), (0, .ref mo)]) hx hb dX8_keepDraft_20 hl (k := 0) rfl (nI_add (i) 1) (Nat.le_of_ble_eq_true rfl) rfl (fun ls hl => ?_)
      refine lv_goto (tgt := 2) hx hb dX8_keepDraft_23 rfl ?_
      exact ih2 (i + 1, upd g ((nI i).toNatClampNeg) (df (nI i).toNatClampNeg)) (by (try dsimp only); exact ⟨by omega, hs_filled (by omega) hI.2.1, fun j hj => by rw [hs_uc (by omega) (by omega)]; exact hI.2.2 j hj⟩) (by (try dsimp only); omega) _ _ _ hP hD hS (lv_sub hl [0, 1] rfl)
  · (try dsimp only); exact ⟨by omega, fun j hj => absurd hj (by omega), fun _ _ => rfl⟩

theorem drS_th {f g : Nat → Int32} (h : drS f) (hc : ∃ c : Nat, g 0 = nI c ∧ 2 ≤ c ∧ c ≤ 8) (e : ∀ q, 9 ≤ q → g q = f q) : drS g := by
  obtain ⟨-, ⟨d, ed, hd⟩, ⟨x, ex, hx⟩, e25⟩ := h
  exact ⟨hc, ⟨d, (e 16 (by decide)).trans ed, hd⟩, ⟨x, (e 14 (by decide)).trans ex, hx⟩, (e 25 (by decide)).trans e25⟩
theorem drS_li {f g : Nat → Int32} (h : drS f) (hd : ∃ d : Nat, g 16 = nI d ∧ d ≤ 8) (e : ∀ q, ¬ (16 ≤ q ∧ q ≤ 24) → g q = f q) : drS g := by
  obtain ⟨⟨c, ec, h2, h8⟩, -, ⟨x, ex, hx⟩, e25⟩ := h
  exact ⟨⟨c, (e 0 (by decide)).trans ec, h2, h8⟩, hd, ⟨x, (e 14 (by decide)).trans ex, hx⟩, (e 25 (by decide)).trans e25⟩
theorem drS_fi {f g : Nat → Int32} (h : drS f) (hd : ∃ d : Nat, g 14 = nI d ∧ d ≤ 99) (e : ∀ q, ¬ q = 14 → g q = f q) : drS g := by
  obtain ⟨⟨c, ec, h2, h8⟩, ⟨d, ed, hd2⟩, -, e25⟩ := h
  exact ⟨⟨c, (e 0 (by decide)).trans ec, h2, h8⟩, ⟨d, (e 16 (by decide)).trans ed, hd2⟩, hd, (e 25 (by decide)).trans e25⟩
theorem drS_q {f g : Nat → Int32} (h : drS f) (e : ∀ q, ¬ (9 ≤ q ∧ q ≤ 13) → g q = f q) : drS g := by
  obtain ⟨⟨c, ec, h2, h8⟩, ⟨d, ed, hd2⟩, ⟨x, ex, hx⟩, e25⟩ := h
  exact ⟨⟨c, (e 0 (by decide)).trans ec, h2, h8⟩, ⟨d, (e 16 (by decide)).trans ed, hd2⟩, ⟨x, (e 14 (by decide)).trans ex, hx⟩, (e 25 (by decide)).trans e25⟩
theorem hs_nine {n : Nat} (h : n < 9) : nI n = 0 ∨ nI n = 1 ∨ nI n = 2 ∨ nI n = 3 ∨ nI n = 4 ∨ nI n = 5 ∨ nI n = 6 ∨ nI n = 7 ∨ nI n = 8 := by
  rcases (show n = 0 ∨ n = 1 ∨ n = 2 ∨ n = 3 ∨ n = 4 ∨ n = 5 ∨ n = 6 ∨ n = 7 ∨ n = 8 by omega) with rfl | rfl | rfl | rfl | rfl | rfl | rfl | rfl | rfl <;> decide
