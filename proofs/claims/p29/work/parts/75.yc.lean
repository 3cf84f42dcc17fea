theorem cBl_on {fm pl fo : Int32} {st : Nat} (h : ¬ fm = 0) : cBl fm pl fo st = (fm, pl) := by rw [cBl, if_neg h]
theorem cBl_0 {pl fo : Int32} {st : Nat} : cBl 0 pl fo st = (fo, nI st) := by rw [cBl, if_pos rfl]
theorem cBF_on {fm pl kd due : Int32} {st : Nat} (h : ¬ fm = 0) : cBF fm pl kd due st = (fm, pl) := by
  unfold cBF
  by_cases e : kd = 4
  · rw [if_pos e, cBl_on h]
  · rw [if_neg e]
    by_cases e2 : kd = due
    · rw [if_pos e2]
    · rw [if_neg e2, cBl_on h]
theorem cBF_4 {pl due : Int32} {st : Nat} : cBF 0 pl 4 due st = (1, nI st) := by rw [cBF, if_pos rfl, cBl_0]
theorem cLk_ft {fm pl kd : Int32} {st be : Nat} {va : Int32} {ft : Nat} {wr so : Int32} {fr ps : Nat} {vr : Int32} {lo hi : Nat} {un : Int32} (hs : hSy fm pl kd st be va ft wr so fr ps vr) (h : ¬ ft = 0) : ¬ (cLk fm pl kd st va lo hi un).1 = 0 ∧ wr = (cLk fm pl kd st va lo hi un).2 := by
  rcases hs with ⟨_, h2, _⟩ | ⟨h1, h2, _, h4⟩ | ⟨h1, _, h3⟩
  · exact absurd h2 h
  · subst h1 h2
    unfold cLk
    rw [cBF_4]
    by_cases e : hsin va (nI lo) (nI hi) = true ∧ ¬ va = un
    · rw [if_pos e]; exact ⟨(by decide : ¬ (1 : Int32) = 0), h4⟩
    · rw [if_neg e, cBl_on (by decide : ¬ (1 : Int32) = 0)]; exact ⟨(by decide : ¬ (1 : Int32) = 0), h4⟩
  · unfold cLk
    rw [cBF_on h1]
    by_cases e : hsin va (nI lo) (nI hi) = true ∧ ¬ va = un
    · rw [if_pos e]; exact ⟨h1, h3⟩
    · rw [if_neg e, cBl_on h1]; exact ⟨h1, h3⟩
theorem hSy_0 {fm pl kd : Int32} {st be : Nat} {va : Int32} {ft : Nat} {wr so : Int32} {fr ps : Nat} {vr : Int32} (hs : hSy fm pl kd st be va ft wr so fr ps vr) (h : ft = 0) : fm = 0 ∧ ¬ kd = 4 ∧ fr = st ∧ ps = be ∧ so = kd ∧ (kd = 2 → vr = va) := by
  rcases hs with ⟨h1, _, h3, h4, h5, h6, h7⟩ | ⟨_, _, h3, _⟩ | ⟨_, h2, _⟩
  · exact ⟨h1, h3, h4, h5, h6, h7⟩
  · exact absurd h h3
  · exact absurd h h2
theorem cLk_so {fm pl kd : Int32} {st be : Nat} {va : Int32} {ft : Nat} {wr so : Int32} {fr ps : Nat} {vr : Int32} {lo hi : Nat} {un : Int32} (hs : hSy fm pl kd st be va ft wr so fr ps vr) (h : ft = 0) (h2 : ¬ so = 2) : ¬ (cLk fm pl kd st va lo hi un).1 = 0 ∧ nI fr = (cLk fm pl kd st va lo hi un).2 := by
  obtain ⟨rfl, hk, rfl, -, e, -⟩ := hSy_0 hs h
  have hB : cBF 0 pl kd 2 fr = (2, nI fr) := by rw [cBF, if_neg hk, if_neg (by rw [← e]; exact h2), cBl_0]
  unfold cLk
  rw [hB]
  by_cases e : hsin va (nI lo) (nI hi) = true ∧ ¬ va = un
  · rw [if_pos e]; exact ⟨(by decide : ¬ (2 : Int32) = 0), rfl⟩
  · rw [if_neg e, cBl_on (by decide : ¬ (2 : Int32) = 0)]; exact ⟨(by decide : ¬ (2 : Int32) = 0), rfl⟩
theorem cLk_in {fm pl kd : Int32} {st be : Nat} {va : Int32} {ft : Nat} {wr so : Int32} {fr ps : Nat} {vr : Int32} {lo hi : Nat} {un : Int32} (hs : hSy fm pl kd st be va ft wr so fr ps vr) (h : ft = 0) (h2 : so = 2) (hv : hsin vr (nI lo) (nI hi) = true) (hu : ¬ vr = un) : (cLk fm pl kd st va lo hi un).1 = 0 ∧ vr = va := by
  obtain ⟨rfl, hk, rfl, -, e, hva⟩ := hSy_0 hs h
  have ek : kd = 2 := e.symm.trans h2
  have ev := hva ek
  subst ev
  unfold cLk
  rw [if_pos ⟨hv, hu⟩, cBF, if_neg hk, if_pos ek]
  exact ⟨rfl, rfl⟩
theorem cLk_out {fm pl kd : Int32} {st be : Nat} {va : Int32} {ft : Nat} {wr so : Int32} {fr ps : Nat} {vr : Int32} {lo hi : Nat} {un : Int32} (hs : hSy fm pl kd st be va ft wr so fr ps vr) (h : ft = 0) (h2 : so = 2) (hv : ¬ (hsin vr (nI lo) (nI hi) = true ∧ ¬ vr = un)) : ¬ (cLk fm pl kd st va lo hi un).1 = 0 ∧ nI fr = (cLk fm pl kd st va lo hi un).2 := by
  obtain ⟨rfl, hk, rfl, -, e, hva⟩ := hSy_0 hs h
  have ek : kd = 2 := e.symm.trans h2
  have ev := hva ek
  subst ev
  unfold cLk
  rw [if_neg hv, cBF, if_neg hk, if_pos ek, cBl_0]
  exact ⟨(by decide : ¬ (3 : Int32) = 0), rfl⟩
theorem hSyU_b {b : Int32 × Int32} {t : Int32 × Nat × Nat × Int32} {u : (Nat × Nat) × Int32 × Int32 × Nat × Int32} (h : b.1 = 0) (h2 : ∀ pl : Int32, hSyU (0, pl) t u) : hSyU b t u := by
  have h3 := h2 b.2
  unfold hSyU at h3 ⊢
  rw [h]
  exact h3
theorem hSyU_C {b : Int32 × Int32} {t : Int32 × Nat × Nat × Int32} {u : (Nat × Nat) × Int32 × Int32 × Nat × Int32} (h1 : ¬ b.1 = 0) (h2 : ¬ u.2.2.2.1 = 0) (h3 : u.2.2.2.2 = b.2) : hSyU b t u := Or.inr (Or.inr ⟨h1, h2, h3⟩)
theorem hs_ge0 {v : Int32} {lo hi : Nat} (hl : lo < 2 ^ 31) (h : hsin v (nI lo) (nI hi) = true) : ¬ v = -4 := by
  intro e
  have h1 := (hsin_toInt h).1
  rw [e, nI_toInt hl] at h1
  have h2 : (-4 : Int32).toInt = -4 := by decide
  omega

set_option maxHeartbeats 4000000 in
set_option maxRecDepth 100000 in
theorem gr_looked (l : Launch) (D : va_G) (k : Nat → ClassId) (sz : Nat) (mo : Nat) (mo_st : Nat) (mo_at : Nat) (mo_isKept : Nat) (mo_pe : Nat) (mo_hm : Nat) (mo_draft : Nat) (mo_dp : Nat) (mo_dh : Nat) (mo_toldLines : Int32) (mo_highest : Int32) (mo_tape : Nat) (mo_tl : Nat) (mo_ps : Nat) (mo_fr : Nat) (mo_sort : Int32) (mo_value : Int32) (mo_ft : Nat) (mo_wrongAt : Int32) (mo_row : Nat) (mo_orderMany : Int32) (mo_fo : Nat) (mo_lightest : Int32) (mo_heaviest : Int32) (mo_before : Nat) (mo_justSum : Int64) (mo_toldSum : Int64) (mo_allWays : Int64) (mo_lanes : Nat) (mo_sizes : Nat) (mo_cells : Nat) (mo_torn : Int32) (mo_had : Nat) (lo : Nat) (hi : Nat) (fm : Int32) (pl : Int32) (kd : Int32) (st : Nat) (be : Nat) (va : Int32) (hlh : lo ≤ hi) (hhi : hi < 2 ^ 30) (hft : mo_ft ≤ 7) (hsy : hSy fm pl kd st be va mo_ft mo_wrongAt mo_sort mo_fr mo_ps mo_value) : MI l yX8_looked wsX8_looked ({ frames := 1, cells := 0, slots := 0, locals := 25 }) D k [.ref mo, .int (nI lo), .int (nI hi)] [oq7 mo mo_st mo_at mo_isKept (nI mo_pe) (nI mo_hm) mo_draft (nI mo_dp) (nI mo_dh) mo_toldLines mo_highest mo_tape (nI mo_tl) (nI mo_ps) (nI mo_fr) mo_sort mo_value (nI mo_ft) mo_wrongAt mo_row mo_orderMany (nI mo_fo) mo_lightest mo_heaviest mo_before mo_justSum mo_toldSum mo_allWays mo_lanes mo_sizes mo_cells mo_torn mo_had] sz (fun (r : Int32) (u : Nat × Nat × Int32) => r = nI u.1 ∧ u.1 ≤ hi ∧ u.2.1 ≤ 7 ∧ (u.2.1 = 0 → (mo_ft = 0 ∧ lo ≤ u.1)) ∧ ((cLk fm pl kd st va lo hi (-4)).1 = 0 → (u.2.1 = 0 ∧ nI u.1 = va)) ∧ (¬ (cLk fm pl kd st va lo hi (-4)).1 = 0 → (¬ u.2.1 = 0 ∧ u.2.2 = (cLk fm pl kd st va lo hi (-4)).2))) (fun (u : Nat × Nat × Int32) => [oq7 mo mo_st mo_at mo_isKept (nI mo_pe) (nI mo_hm) mo_draft (nI mo_dp) (nI mo_dh) mo_toldLines mo_highest mo_tape (nI mo_tl) (nI mo_ps) (nI mo_fr) mo_sort mo_value (nI (u.2.1)) u.2.2 mo_row mo_orderMany (nI mo_fo) mo_lightest mo_heaviest mo_before mo_justSum mo_toldSum mo_allWays mo_lanes mo_sizes mo_cells mo_torn mo_had]) := by
  refine Met.ofW (cc := cX8_looked) (maxL := 3) (ret := (some .int)) hpn_X8 rfl ?_
  intro p e s m args below meth c s₁ B hml hv
  obtain ⟨rfl, hsz, hP, hK, hD0, hN⟩ := hv
  have hx := B.exec
  have hb := B.bytes
  have hr := B.returns
  have hlocks := B.notSynchronized
  have hts := atoms_spec (ws := wsX8_looked) B.pre
  have hown := findClass_of_methodNamed B.named
  have hown : s.vm.findClass RX8 = some m.cls := hown
  have hiX8 : ∀ w ∈ u_ws RX8 TX8 32, w ∈ wsX8_looked := fun w9 hw9 => List.mem_cons_of_mem _ (igX8 w9 hw9)
  have fl78 := hts (.fieldLink RX8 78 "HalfScalesModel" "fault" "I") (List.mem_cons_of_mem _ (hs_inG 4 96 rfl rfl))
  have fl101 := hts (.fieldLink RX8 101 "HalfScalesModel" "sort" "I") (List.mem_cons_of_mem _ (hs_inG 4 94 rfl rfl))
  have fl112 := hts (.fieldLink RX8 112 "HalfScalesModel" "value" "I") (List.mem_cons_of_mem _ (hs_inG 4 95 rfl rfl))
  subst hsz
  have hD := hD0.self (sz := s.heap.size)
  generalize hAe : va_A [oq7 mo mo_st mo_at mo_isKept (nI mo_pe) (nI mo_hm) mo_draft (nI mo_dp) (nI mo_dh) mo_toldLines mo_highest mo_tape (nI mo_tl) (nI mo_ps) (nI mo_fr) mo_sort mo_value (nI mo_ft) mo_wrongAt mo_row mo_orderMany (nI mo_fo) mo_lightest mo_heaviest mo_before mo_justSum mo_toldSum mo_allWays mo_lanes mo_sizes mo_cells mo_torn mo_had] s.heap.size = A at hD ⊢
  have hA : ∀ q : Nat, s.heap.size ≤ q → A q := fun q h => by rw [← hAe]; exact Or.inr h
  have hS : va_S A s.heap s.heap [] := va_S.rf
  have hl := lv_entry ([.ref mo, .int (nI lo), .int (nI hi)]) (n := 3) (Nat.le_of_ble_eq_true rfl)
  rw [lg_entry_eq]
  generalize (lg_sl ([.ref mo, .int (nI lo), .int (nI hi)]) ++ List.replicate (3 - (lg_sl ([.ref mo, .int (nI lo), .int (nI hi)])).length) Slot.unset).toArray = ls at hl ⊢
  have hl : lv_has ls 3 [(0, .ref mo), (1, .int (nI lo)), (2, .int (nI hi))] := hl
  have hP : va_P D vwCl [oq7 mo mo_st mo_at mo_isKept (nI mo_pe) (nI mo_hm) mo_draft (nI mo_dp) (nI mo_dh) mo_toldLines mo_highest mo_tape (nI mo_tl) (nI mo_ps) (nI mo_fr) mo_sort mo_value (nI mo_ft) mo_wrongAt mo_row mo_orderMany (nI mo_fo) mo_lightest mo_heaviest mo_before mo_justSum mo_toldSum mo_allWays mo_lanes mo_sizes mo_cells mo_torn mo_had] s.heap := hP
  refine lv_aload_n hx hb dX8_looked_0 rfl (lv_at hl 0 rfl) ?_
  refine va_get (D := D) (ci := 7) (v := .int (nI mo_ft)) (C := RX8) (T := TX8) (N := 32) hx hb hts hiX8 hown hK hP 0 rfl rfl 16 (Nat.le_of_ble_eq_true rfl) fl78 (fun _ h9 => h9) rfl dX8_looked_1 ?_
  refine lv_if_ne (tgt := 25) hx hb dX8_looked_4 rfl (fun c_1 => ?_) (fun c_1 => ?_)
  · have nc_1 : ¬ mo_ft = 0 := fun hq9 => c_1 ((nI_eq (a := mo_ft) (b := 0) (by omega) (by omega)).mpr hq9)
    refine lv_aload_n hx hb dX8_looked_25 rfl (lv_at hl 0 rfl) ?_
    refine va_get (D := D) (ci := 7) (v := .int (nI mo_ft)) (C := RX8) (T := TX8) (N := 32) hx hb hts hiX8 hown hK hP 0 rfl rfl 16 (Nat.le_of_ble_eq_true rfl) fl78 (fun _ h9 => h9) rfl dX8_looked_26 ?_
    refine lv_if_ne (tgt := 49) hx hb dX8_looked_29 rfl (fun c_2 => ?_) (fun c_2 => absurd ((nI_eq (a := mo_ft) (b := 0) (by omega) (by omega)).mp c_2) nc_1)
    refine lv_aload_n hx hb dX8_looked_49 rfl (lv_at hl 0 rfl) ?_
    refine va_get (D := D) (ci := 7) (v := .int (nI mo_ft)) (C := RX8) (T := TX8) (N := 32) hx hb hts hiX8 hown hK hP 0 rfl rfl 16 (Nat.le_of_ble_eq_true rfl) fl78 (fun _ h9 => h9) rfl dX8_looked_50 ?_
    refine lv_if_ne (tgt := 63) hx hb dX8_looked_53 rfl (fun c_3 => ?_) (fun c_3 => absurd ((nI_eq (a := mo_ft) (b := 0) (by omega) (by omega)).mp c_3) nc_1)
    refine lv_iconst (v := 0) hx hb dX8_looked_63 hki_0 ?_
    exact hs_iret hx hb hr hlocks hK hP hD hS (0, mo_ft, mo_wrongAt) [0] rfl (hs_upnd rfl) dX8_looked_64 (⟨rfl, by (try dsimp only); omega, by (try dsimp only); omega, fun h => by (try dsimp only at h); first | (exfalso; omega) | (exact ⟨by omega, by (try dsimp only); omega⟩), fun h9 => absurd h9 (cLk_ft hsy (by omega)).1, fun _ => ⟨by (try dsimp only); omega, (cLk_ft hsy (by omega)).2⟩⟩)
  · have nc_1 : mo_ft = 0 := (nI_eq (a := mo_ft) (b := 0) (by omega) (by omega)).mp c_1
    refine lv_aload_n hx hb dX8_looked_7 rfl (lv_at hl 0 rfl) ?_
    refine lv_aload_n hx hb dX8_looked_8 rfl (lv_at hl 0 rfl) ?_
    refine va_get (D := D) (ci := 7) (v := .int mo_sort) (C := RX8) (T := TX8) (N := 32) hx hb hts hiX8 hown hK hP 0 rfl rfl 14 (Nat.le_of_ble_eq_true rfl) fl101 (fun _ h9 => h9) rfl dX8_looked_9 ?_
    refine lv_iconst (v := 2) hx hb dX8_looked_12 hki_2 ?_
    refine lv_icmp_ne (tgt := 20) hx hb dX8_looked_13 rfl (fun c_4 => ?_) (fun c_4 => ?_)
    · refine lv_iconst (v := 0) hx hb dX8_looked_20 hki_0 ?_
      refine lv_iconst (v := 2) hx hb dX8_looked_21 hki_2 ?_
      refine hs_cvM (va_runV (As := [.int 0, .int 2]) (rest := []) ⟨hx, hb, hml, hown, hts⟩ (gr_needs l D k _ mo mo_st mo_at mo_isKept mo_pe mo_hm mo_draft mo_dp mo_dh mo_toldLines mo_highest mo_tape mo_tl mo_ps mo_fr mo_sort mo_value mo_ft mo_wrongAt mo_row mo_orderMany mo_fo mo_lightest mo_heaviest mo_before mo_justSum mo_toldSum mo_allWays mo_lanes mo_sizes mo_cells mo_torn mo_had 0 2 (by omega) (by omega)) (cwV 2 hts gX8_looked_X8_needs rfl rfl rfl ⟨rfl, hq_X8_needs⟩ ⟨Nat.le_of_ble_eq_true rfl, Nat.le_of_ble_eq_true rfl⟩) (hs_preV hK hN (hs_subP (w := [_]) hP [0] rfl) (hD.sub (ws' := [_]) [0] (hs_upnd rfl) rfl) (ci := 7) (q0 := 0) rfl rfl) rfl rfl hl.1 rfl (lv_room (Nat.le_of_ble_eq_true rfl)) dX8_looked_22 ⟨Nat.le_of_ble_eq_true rfl, Nat.le_of_ble_eq_true rfl⟩) hP hD hS hA [false] [] [_] rfl [0] rfl [0] (fun u_7 => [_]) (fun _ => rfl) (hs_upnd rfl) [false] (fun u_7 => [_]) (fun _ => rfl) (fun u_7 H locs hw_6 hP hD hS => ?_)
      have hw_6 : u_7.1 ≤ 7 ∧ (u_7.1 = 0 → mo_ft = 0) ∧ ((0 : Int32) = 0 → ¬ u_7.1 = 0) ∧ u_7 = hNd mo_ft mo_wrongAt mo_fr 0 2 := hw_6
      have hzhw_6 := hw_6.2.2.1 rfl
      refine lv_aload_n hx hb dX8_looked_25 rfl (lv_at hl 0 rfl) ?_
      refine va_get (D := D) (ci := 7) (v := .int (nI (u_7.1))) (C := RX8) (T := TX8) (N := 32) hx hb hts hiX8 hown hK hP 0 rfl rfl 16 (Nat.le_of_ble_eq_true rfl) fl78 (fun _ h9 => h9) rfl dX8_looked_26 ?_
      refine lv_if_ne (tgt := 49) hx hb dX8_looked_29 rfl (fun c_8 => ?_) (fun c_8 => absurd ((nI_eq (a := (u_7.1)) (b := 0) (by omega) (by omega)).mp c_8) hzhw_6)
      refine lv_aload_n hx hb dX8_looked_49 rfl (lv_at hl 0 rfl) ?_
      refine va_get (D := D) (ci := 7) (v := .int (nI (u_7.1))) (C := RX8) (T := TX8) (N := 32) hx hb hts hiX8 hown hK hP 0 rfl rfl 16 (Nat.le_of_ble_eq_true rfl) fl78 (fun _ h9 => h9) rfl dX8_looked_50 ?_
      refine lv_if_ne (tgt := 63) hx hb dX8_looked_53 rfl (fun c_9 => ?_) (fun c_9 => absurd ((nI_eq (a := (u_7.1)) (b := 0) (by omega) (by omega)).mp c_9) hzhw_6)
      refine lv_iconst (v := 0) hx hb dX8_looked_63 hki_0 ?_
      exact hs_iret hx hb hr hlocks hK hP hD hS (0, u_7.1, u_7.2) [0] rfl (hs_upnd rfl) dX8_looked_64 (⟨rfl, by (try dsimp only); omega, by (try dsimp only); omega, fun h => by (try dsimp only at h); first | (exfalso; omega) | (have h0 := hw_6.2.1 (by omega); exact ⟨by omega, by (try dsimp only); omega⟩), fun h9 => absurd h9 (cLk_so hsy (by omega) c_4).1, fun _ => ⟨by (try dsimp only); omega, (show _ = _ by (try dsimp only); rw [hw_6.2.2.2, hNd, if_pos ⟨rfl, by omega⟩]; exact (cLk_so hsy (by omega) c_4).2)⟩⟩)
    · refine lv_iconst (v := 1) hx hb dX8_looked_16 hki_1 ?_
      refine lv_goto (tgt := 21) hx hb dX8_looked_17 rfl ?_
      refine lv_iconst (v := 2) hx hb dX8_looked_21 hki_2 ?_
      refine hs_cvM (va_runV (As := [.int 1, .int 2]) (rest := []) ⟨hx, hb, hml, hown, hts⟩ (gr_needs l D k _ mo mo_st mo_at mo_isKept mo_pe mo_hm mo_draft mo_dp mo_dh mo_toldLines mo_highest mo_tape mo_tl mo_ps mo_fr mo_sort mo_value mo_ft mo_wrongAt mo_row mo_orderMany mo_fo mo_lightest mo_heaviest mo_before mo_justSum mo_toldSum mo_allWays mo_lanes mo_sizes mo_cells mo_torn mo_had 1 2 (by omega) (by omega)) (cwV 2 hts gX8_looked_X8_needs rfl rfl rfl ⟨rfl, hq_X8_needs⟩ ⟨Nat.le_of_ble_eq_true rfl, Nat.le_of_ble_eq_true rfl⟩) (hs_preV hK hN (hs_subP (w := [_]) hP [0] rfl) (hD.sub (ws' := [_]) [0] (hs_upnd rfl) rfl) (ci := 7) (q0 := 0) rfl rfl) rfl rfl hl.1 rfl (lv_room (Nat.le_of_ble_eq_true rfl)) dX8_looked_22 ⟨Nat.le_of_ble_eq_true rfl, Nat.le_of_ble_eq_true rfl⟩) hP hD hS hA [false] [] [_] rfl [0] rfl [0] (fun u_12 => [_]) (fun _ => rfl) (hs_upnd rfl) [false] (fun u_12 => [_]) (fun _ => rfl) (fun u_12 H locs hw_11 hP hD hS => ?_)
      have hw_11 : u_12.1 ≤ 7 ∧ (u_12.1 = 0 → mo_ft = 0) ∧ ((1 : Int32) = 0 → ¬ u_12.1 = 0) ∧ u_12 = hNd mo_ft mo_wrongAt mo_fr 1 2 := hw_11
      have hqhw_11 : u_12.1 = mo_ft := by rw [hw_11.2.2.2, hNd, if_neg (fun z9 => absurd z9.1 (by decide))]
      have hzhw_11 : u_12.1 = 0 := hqhw_11.trans nc_1
      refine lv_aload_n hx hb dX8_looked_25 rfl (lv_at hl 0 rfl) ?_
      refine va_get (D := D) (ci := 7) (v := .int (nI (u_12.1))) (C := RX8) (T := TX8) (N := 32) hx hb hts hiX8 hown hK hP 0 rfl rfl 16 (Nat.le_of_ble_eq_true rfl) fl78 (fun _ h9 => h9) rfl dX8_looked_26 ?_
      refine lv_if_ne (tgt := 49) hx hb dX8_looked_29 rfl (fun c_13 => absurd ((nI_eq (a := (u_12.1)) (b := 0) (by omega) (by omega)).mpr hzhw_11) c_13) (fun c_13 => ?_)
      refine lv_aload_n hx hb dX8_looked_32 rfl (lv_at hl 0 rfl) ?_
      refine lv_aload_n hx hb dX8_looked_33 rfl (lv_at hl 0 rfl) ?_
      refine va_get (D := D) (ci := 7) (v := .int mo_value) (C := RX8) (T := TX8) (N := 32) hx hb hts hiX8 hown hK hP 0 rfl rfl 15 (Nat.le_of_ble_eq_true rfl) fl112 (fun _ h9 => h9) rfl dX8_looked_34 ?_
      refine lv_i2l hx hb dX8_looked_37 rfl ?_
      refine lv_iload_n hx hb dX8_looked_38 rfl (lv_at hl 1 rfl) ?_
      refine lv_i2l hx hb dX8_looked_39 rfl ?_
      refine lv_iload_n hx hb dX8_looked_40 rfl (lv_at hl 2 rfl) ?_
      refine lv_i2l hx hb dX8_looked_41 rfl ?_
      refine hs_pi (va_runS (As := [.long (((mo_value) : Int32).toInt64), .long (((nI lo) : Int32).toInt64), .long (((nI hi) : Int32).toInt64)]) (rest := [.ref mo]) ⟨hx, hb, hml, hown, hts⟩ (gm_in l D k _ mo_value (nI lo) (nI hi)) (va_cwS 3 hts gX8_looked_X8_in rfl rfl rfl hq_X8_in ⟨Nat.le_of_ble_eq_true rfl, Nat.le_of_ble_eq_true rfl⟩) (hs_preS hK hN (hs_subP (w := []) hP [] rfl) (hD.sub (ws' := []) [] rfl rfl)) rfl rfl hl.1 rfl (lv_room (Nat.le_of_ble_eq_true rfl)) dX8_looked_42 ⟨Nat.le_of_ble_eq_true rfl, Nat.le_of_ble_eq_true rfl⟩) hP hD hS hA (fun r_14 u_16 H locs hw_15 hP hS => ?_)
      refine hs_topi (hsb (hsin mo_value (nI lo) (nI hi))) hw_15 ?_
      refine lv_iconst (v := 3) hx hb dX8_looked_45 hki_3 ?_
      refine hs_cvM (va_runV (As := [.int (hsb (hsin mo_value (nI lo) (nI hi))), .int 3]) (rest := []) ⟨hx, hb, hml, hown, hts⟩ (gr_needs l D k _ mo mo_st mo_at mo_isKept mo_pe mo_hm mo_draft mo_dp mo_dh mo_toldLines mo_highest mo_tape mo_tl mo_ps mo_fr mo_sort mo_value u_12.1 u_12.2 mo_row mo_orderMany mo_fo mo_lightest mo_heaviest mo_before mo_justSum mo_toldSum mo_allWays mo_lanes mo_sizes mo_cells mo_torn mo_had (hsb (hsin mo_value (nI lo) (nI hi))) 3 (by omega) (by omega)) (cwV 2 hts gX8_looked_X8_needs rfl rfl rfl ⟨rfl, hq_X8_needs⟩ ⟨Nat.le_of_ble_eq_true rfl, Nat.le_of_ble_eq_true rfl⟩) (hs_preV hK hN (hs_subP (w := [_]) hP [0] rfl) (hD.sub (ws' := [_]) [0] (hs_upnd rfl) rfl) (ci := 7) (q0 := 0) rfl rfl) rfl rfl hl.1 rfl (lv_room (Nat.le_of_ble_eq_true rfl)) dX8_looked_46 ⟨Nat.le_of_ble_eq_true rfl, Nat.le_of_ble_eq_true rfl⟩) hP hD hS hA [false] [] [_] rfl [0] rfl [0] (fun u_19 => [_]) (fun _ => rfl) (hs_upnd rfl) [false] (fun u_19 => [_]) (fun _ => rfl) (fun u_19 H locs hw_18 hP hD hS => ?_)
      have hw_18 : u_19.1 ≤ 7 ∧ (u_19.1 = 0 → u_12.1 = 0) ∧ (((hsb (hsin mo_value (nI lo) (nI hi))) : Int32) = 0 → ¬ u_19.1 = 0) ∧ u_19 = hNd u_12.1 u_12.2 mo_fr (hsb (hsin mo_value (nI lo) (nI hi))) 3 := hw_18
      refine lv_aload_n hx hb dX8_looked_49 rfl (lv_at hl 0 rfl) ?_
      refine va_get (D := D) (ci := 7) (v := .int (nI (u_19.1))) (C := RX8) (T := TX8) (N := 32) hx hb hts hiX8 hown hK hP 0 rfl rfl 16 (Nat.le_of_ble_eq_true rfl) fl78 (fun _ h9 => h9) rfl dX8_looked_50 ?_
      refine lv_if_ne (tgt := 63) hx hb dX8_looked_53 rfl (fun c_20 => ?_) (fun c_20 => ?_)
      · have nc_20 : ¬ (u_19.1) = 0 := fun hq9 => c_20 ((nI_eq (a := (u_19.1)) (b := 0) (by omega) (by omega)).mpr hq9)
        have hvo0 : hsb (hsin mo_value (nI lo) (nI hi)) = 0 := Decidable.byContradiction (fun hne => nc_20 (by rw [hw_18.2.2.2, hNd, if_neg (fun z9 => hne z9.1)]; exact hzhw_11))
        have hvo : ¬ hsin mo_value (nI lo) (nI hi) = true := by rw [hs_n0 hvo0]; decide
        refine lv_iconst (v := 0) hx hb dX8_looked_63 hki_0 ?_
        exact hs_iret hx hb hr hlocks hK hP hD hS (0, u_19.1, u_19.2) [0] rfl (hs_upnd rfl) dX8_looked_64 (⟨rfl, by (try dsimp only); omega, by (try dsimp only); omega, fun h => by (try dsimp only at h); first | (exfalso; omega) | (have h1 := hw_18.2.1 (by omega); have h0 := hw_11.2.1 (by omega); exact ⟨by omega, by (try dsimp only); omega⟩), fun h9 => absurd h9 (cLk_out hsy (by omega) c_4 (fun z9 => hvo z9.1)).1, fun _ => ⟨by (try dsimp only); omega, (show _ = _ by (try dsimp only); rw [hw_18.2.2.2, hNd, if_pos ⟨hvo0, by have h8 := hw_11.2.2.2; rw [hNd, if_neg (fun z9 => absurd z9.1 (by decide))] at h8; rw [h8]; omega⟩]; exact (cLk_out hsy (by omega) c_4 (fun z9 => hvo z9.1)).2)⟩⟩)
      · have nc_20 : (u_19.1) = 0 := (nI_eq (a := (u_19.1)) (b := 0) (by omega) (by omega)).mp c_20
        obtain ⟨jv, hjv, hjvb, rfl⟩ := hs_rng (by omega) (by omega) (hs_nb (fun hg => hw_18.2.2.1 hg (by omega)))
        have hvi : hsin (nI jv) (nI lo) (nI hi) = true := hs_nb (fun hg => hw_18.2.2.1 hg (by omega))
        refine lv_aload_n hx hb dX8_looked_56 rfl (lv_at hl 0 rfl) ?_
        refine va_get (D := D) (ci := 7) (v := .int (nI jv)) (C := RX8) (T := TX8) (N := 32) hx hb hts hiX8 hown hK hP 0 rfl rfl 15 (Nat.le_of_ble_eq_true rfl) fl112 (fun _ h9 => h9) rfl dX8_looked_57 ?_
        refine lv_goto (tgt := 64) hx hb dX8_looked_60 rfl ?_
        exact hs_iret hx hb hr hlocks hK hP hD hS (jv, u_19.1, u_19.2) [0] rfl (hs_upnd rfl) dX8_looked_64 (⟨rfl, by (try dsimp only); omega, by (try dsimp only); omega, fun h => by (try dsimp only at h); first | (exfalso; omega) | (have h1 := hw_18.2.1 (by omega); have h0 := hw_11.2.1 (by omega); exact ⟨by omega, by (try dsimp only); omega⟩), fun _ => ⟨by (try dsimp only); omega, (cLk_in hsy (by omega) c_4 hvi (hs_ge0 (by omega) hvi)).2⟩, fun h9 => absurd (cLk_in hsy (by omega) c_4 hvi (hs_ge0 (by omega) hvi)).1 h9⟩)

set_option maxHeartbeats 4000000 in
set_option maxRecDepth 100000 in
theorem gr_readNumber (l : Launch) (D : va_G) (k : Nat → ClassId) (sz : Nat) (mo : Nat) (mo_st : Nat) (mo_at : Nat) (mo_isKept : Nat) (mo_pe : Nat) (mo_hm : Nat) (mo_draft : Nat) (mo_dp : Nat) (mo_dh : Nat) (mo_toldLines : Int32) (mo_highest : Int32) (mo_tape : Nat) (mo_tl : Nat) (mo_ps : Nat) (mo_fr : Nat) (mo_sort : Int32) (mo_value : Int32) (mo_ft : Nat) (mo_wrongAt : Int32) (mo_row : Nat) (mo_orderMany : Int32) (mo_fo : Nat) (mo_lightest : Int32) (mo_heaviest : Int32) (mo_before : Nat) (mo_justSum : Int64) (mo_toldSum : Int64) (mo_allWays : Int64) (mo_lanes : Nat) (mo_sizes : Nat) (mo_cells : Nat) (mo_torn : Int32) (mo_had : Nat) (tf : Nat → Int32) (lo : Nat) (hi : Nat) (fm : Int32) (pl : Int32) (kd : Int32) (st : Nat) (be : Nat) (va : Int32) (ht : mo_tl ≤ 160) (hps : mo_ps ≤ mo_tl) (hfr : mo_fr ≤ 160) (hft : mo_ft ≤ 7) (hby : ∀ q, q < mo_tl → ¬ tf q < 0) (hlh : lo ≤ hi) (hhi : hi < 2 ^ 30) (hsy : hSy fm pl kd st be va mo_ft mo_wrongAt mo_sort mo_fr mo_ps mo_value) : MI l yX8_readNumber wsX8_readNumber ({ frames := 2, cells := 0, slots := 0, locals := 47 }) D k [.ref mo, .int (nI lo), .int (nI hi)] [oq7 mo mo_st mo_at mo_isKept (nI mo_pe) (nI mo_hm) mo_draft (nI mo_dp) (nI mo_dh) mo_toldLines mo_highest mo_tape (nI mo_tl) (nI mo_ps) (nI mo_fr) mo_sort mo_value (nI mo_ft) mo_wrongAt mo_row mo_orderMany (nI mo_fo) mo_lightest mo_heaviest mo_before mo_justSum mo_toldSum mo_allWays mo_lanes mo_sizes mo_cells mo_torn mo_had, oqI k mo_tape 160 (tf)] sz (fun (r : Int32) (u : Nat × (Nat × Nat) × Int32 × Int32 × Nat × Int32) => r = nI u.1 ∧ (u.1 ≤ hi ∧ (u.2.2.2.2.1 = 0 → (mo_ft = 0 ∧ lo ≤ u.1 ∧ mo_ps ≤ u.2.1.2 ∧ u.2.1.2 ≤ u.2.1.1 ∧ (u.2.2.1 = 0 ∨ u.2.1.2 < u.2.1.1))) ∧ u.2.1.1 ≤ mo_tl ∧ u.2.1.2 ≤ 160 ∧ u.2.2.2.2.1 ≤ 7) ∧ hSyU (cTN tf mo_tl fm pl kd st be va lo hi (-4)).2.1 (cTN tf mo_tl fm pl kd st be va lo hi (-4)).2.2 u.2 ∧ ((cTN tf mo_tl fm pl kd st be va lo hi (-4)).2.1.1 = 0 → nI u.1 = (cTN tf mo_tl fm pl kd st be va lo hi (-4)).1)) (fun (u : Nat × (Nat × Nat) × Int32 × Int32 × Nat × Int32) => [oq7 mo mo_st mo_at mo_isKept (nI mo_pe) (nI mo_hm) mo_draft (nI mo_dp) (nI mo_dh) mo_toldLines mo_highest mo_tape (nI mo_tl) (nI (u.2.1.1)) (nI (u.2.1.2)) u.2.2.1 u.2.2.2.1 (nI (u.2.2.2.2.1)) u.2.2.2.2.2 mo_row mo_orderMany (nI mo_fo) mo_lightest mo_heaviest mo_before mo_justSum mo_toldSum mo_allWays mo_lanes mo_sizes mo_cells mo_torn mo_had, oqI k mo_tape 160 (tf)]) := by
  refine Met.ofW (cc := cX8_readNumber) (maxL := 4) (ret := (some .int)) hpn_X8 rfl ?_
  intro p e s m args below meth c s₁ B hml hv
  obtain ⟨rfl, hsz, hP, hK, hD0, hN⟩ := hv
  have hx := B.exec
  have hb := B.bytes
  have hr := B.returns
  have hlocks := B.notSynchronized
  have hts := atoms_spec (ws := wsX8_readNumber) B.pre
  have hown := findClass_of_methodNamed B.named
  have hown : s.vm.findClass RX8 = some m.cls := hown
  subst hsz
  have hD := hD0.self (sz := s.heap.size)
  generalize hAe : va_A [oq7 mo mo_st mo_at mo_isKept (nI mo_pe) (nI mo_hm) mo_draft (nI mo_dp) (nI mo_dh) mo_toldLines mo_highest mo_tape (nI mo_tl) (nI mo_ps) (nI mo_fr) mo_sort mo_value (nI mo_ft) mo_wrongAt mo_row mo_orderMany (nI mo_fo) mo_lightest mo_heaviest mo_before mo_justSum mo_toldSum mo_allWays mo_lanes mo_sizes mo_cells mo_torn mo_had, oqI k mo_tape 160 (tf)] s.heap.size = A at hD ⊢
  have hA : ∀ q : Nat, s.heap.size ≤ q → A q := fun q h => by rw [← hAe]; exact Or.inr h
  have hS : va_S A s.heap s.heap [] := va_S.rf
  have hl := lv_entry ([.ref mo, .int (nI lo), .int (nI hi)]) (n := 4) (Nat.le_of_ble_eq_true rfl)
  rw [lg_entry_eq]
  generalize (lg_sl ([.ref mo, .int (nI lo), .int (nI hi)]) ++ List.replicate (4 - (lg_sl ([.ref mo, .int (nI lo), .int (nI hi)])).length) Slot.unset).toArray = ls at hl ⊢
  have hl : lv_has ls 4 [(0, .ref mo), (1, .int (nI lo)), (2, .int (nI hi))] := hl
  have hP : va_P D vwCl [oq7 mo mo_st mo_at mo_isKept (nI mo_pe) (nI mo_hm) mo_draft (nI mo_dp) (nI mo_dh) mo_toldLines mo_highest mo_tape (nI mo_tl) (nI mo_ps) (nI mo_fr) mo_sort mo_value (nI mo_ft) mo_wrongAt mo_row mo_orderMany (nI mo_fo) mo_lightest mo_heaviest mo_before mo_justSum mo_toldSum mo_allWays mo_lanes mo_sizes mo_cells mo_torn mo_had, oqI k mo_tape 160 (tf)] s.heap := hP
  refine lv_aload_n hx hb dX8_readNumber_0 rfl (lv_at hl 0 rfl) ?_
  refine lv_iload_n hx hb dX8_readNumber_1 rfl (lv_at hl 1 rfl) ?_
  refine lv_iload_n hx hb dX8_readNumber_2 rfl (lv_at hl 2 rfl) ?_
  refine hs_ciM (va_runV (As := [.int (nI lo), .int (nI hi)]) (rest := []) ⟨hx, hb, hml, hown, hts⟩ (gr_looked l D k _ mo mo_st mo_at mo_isKept mo_pe mo_hm mo_draft mo_dp mo_dh mo_toldLines mo_highest mo_tape mo_tl mo_ps mo_fr mo_sort mo_value mo_ft mo_wrongAt mo_row mo_orderMany mo_fo mo_lightest mo_heaviest mo_before mo_justSum mo_toldSum mo_allWays mo_lanes mo_sizes mo_cells mo_torn mo_had lo hi fm pl kd st be va (by omega) (by omega) (by omega) hsy) (cwV 2 hts gX8_readNumber_X8_looked rfl rfl rfl ⟨rfl, hq_X8_looked⟩ ⟨Nat.le_of_ble_eq_true rfl, Nat.le_of_ble_eq_true rfl⟩) (hs_preV hK hN (hs_subP (w := [_]) hP [0] rfl) (hD.sub (ws' := [_]) [0] (hs_upnd rfl) rfl) (ci := 7) (q0 := 0) rfl rfl) rfl rfl hl.1 rfl (lv_room (Nat.le_of_ble_eq_true rfl)) dX8_readNumber_3 ⟨Nat.le_of_ble_eq_true rfl, Nat.le_of_ble_eq_true rfl⟩) hP hD hS hA [false, true] [_] [_] rfl [0] rfl [0] (fun u_3 => [_]) (fun _ => rfl) (hs_upnd rfl) [false, true] (fun u_3 => [_, _]) (fun _ => rfl) (fun r_1 u_3 H locs hw_2 hP hD hS => ?_)
  have hw_2 : r_1 = nI u_3.1 ∧ u_3.1 ≤ hi ∧ u_3.2.1 ≤ 7 ∧ (u_3.2.1 = 0 → (mo_ft = 0 ∧ lo ≤ u_3.1)) ∧ ((cLk fm pl kd st va lo hi (-4)).1 = 0 → (u_3.2.1 = 0 ∧ nI u_3.1 = va)) ∧ (¬ (cLk fm pl kd st va lo hi (-4)).1 = 0 → (¬ u_3.2.1 = 0 ∧ u_3.2.2 = (cLk fm pl kd st va lo hi (-4)).2)) := hw_2
  refine hs_topi (nI (u_3.1)) hw_2.1 ?_
  refine lv_istore_n (lv' := [(3, .int (nI (u_3.1))), (0, .ref mo), (1, .int (nI lo)), (2, .int (nI hi))]) hx hb dX8_readNumber_6 rfl hl (Nat.le_of_ble_eq_true rfl) rfl (fun ls hl => ?_)
  refine lv_aload_n hx hb dX8_readNumber_7 rfl (lv_at hl 1 rfl) ?_
  refine hs_cvM (va_runV (As := []) (rest := []) ⟨hx, hb, hml, hown, hts⟩ (gr_takes l D k _ mo mo_st mo_at mo_isKept mo_pe mo_hm mo_draft mo_dp mo_dh mo_toldLines mo_highest mo_tape mo_tl mo_ps mo_fr mo_sort mo_value u_3.2.1 u_3.2.2 mo_row mo_orderMany mo_fo mo_lightest mo_heaviest mo_before mo_justSum mo_toldSum mo_allWays mo_lanes mo_sizes mo_cells mo_torn mo_had tf (by omega) (by omega) (by omega) (by omega) hby) (cwV 0 hts gX8_readNumber_X8_takes rfl rfl rfl ⟨rfl, hq_X8_takes⟩ ⟨Nat.le_of_ble_eq_true rfl, Nat.le_of_ble_eq_true rfl⟩) (hs_preV hK hN (hs_subP (w := [_, _]) hP [0, 1] rfl) (hD.sub (ws' := [_, _]) [0, 1] (hs_upnd rfl) rfl) (ci := 7) (q0 := 0) rfl rfl) rfl rfl hl.1 rfl (lv_room (Nat.le_of_ble_eq_true rfl)) dX8_readNumber_8 ⟨Nat.le_of_ble_eq_true rfl, Nat.le_of_ble_eq_true rfl⟩) hP hD hS hA [false, false] [] [_, _] rfl [0, 1] rfl [0, 1] (fun u_6 => [_, _]) (fun _ => rfl) (hs_upnd rfl) [false, false] (fun u_6 => [_, _]) (fun _ => rfl) (fun u_6 H locs hw_5 hP hD hS => ?_)
  have hw_5 : (u_6.1.1 ≤ mo_tl ∧ u_6.1.2 ≤ 160 ∧ u_6.2.2.2.1 ≤ 7 ∧ (u_6.2.2.2.1 = 0 → (u_3.2.1 = 0 ∧ mo_ps ≤ u_6.1.2 ∧ u_6.1.2 ≤ u_6.1.1 ∧ (u_6.2.1 = 0 ∨ u_6.1.2 < u_6.1.1)))) ∧ (u_3.2.1 = 0 → ∀ pl : Int32, hSyU (0, pl) (htok tf mo_tl mo_ps) u_6) ∧ (¬ u_3.2.1 = 0 → u_6 = ((mo_ps, mo_fr), mo_sort, mo_value, u_3.2.1, u_3.2.2)) := hw_5
  refine lv_iload_n hx hb dX8_readNumber_11 rfl (lv_at hl 0 rfl) ?_
  exact hs_iret hx hb hr hlocks hK hP hD hS (u_3.1, ((u_6.1.1, u_6.1.2), u_6.2.1, u_6.2.2.1, u_6.2.2.2.1, u_6.2.2.2.2)) [0, 1] rfl (hs_upnd rfl) dX8_readNumber_12 (⟨rfl, ⟨hw_2.2.1, fun h => ⟨(hw_2.2.2.2.1 (hw_5.1.2.2.2 h).1).1, (hw_2.2.2.2.1 (hw_5.1.2.2.2 h).1).2, (hw_5.1.2.2.2 h).2⟩, hw_5.1.1, hw_5.1.2.1, hw_5.1.2.2.1⟩, (if h9 : (cLk fm pl kd st va lo hi (-4)).1 = 0 then (by rw [cTN_yes h9]; exact hSyU_b h9 (fun pl9 => by have e9 := (hSy_0 hsy (hw_2.2.2.2.1 (hw_2.2.2.2.2.1 h9).1).1).2.2.2.1; rw [← e9]; exact hw_5.2.1 (hw_2.2.2.2.2.1 h9).1 pl9)) else (by rw [cTN_no h9, hw_5.2.2 (hw_2.2.2.2.2.2 h9).1]; exact hSyU_C h9 (hw_2.2.2.2.2.2 h9).1 (hw_2.2.2.2.2.2 h9).2)), (if h9 : (cLk fm pl kd st va lo hi (-4)).1 = 0 then (fun _ => by rw [cTN_yes h9]; exact (hw_2.2.2.2.2.1 h9).2) else (fun h8 => absurd (by rw [cTN_no h9] at h8; exact h8) h9))⟩)
