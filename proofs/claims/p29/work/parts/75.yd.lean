theorem cLk_0 {fm pl kd : Int32} {st : Nat} {va : Int32} {lo hi : Nat} {un : Int32} (h : (cLk fm pl kd st va lo hi un).1 = 0) : fm = 0 := by
  unfold cLk at h
  by_cases e : hsin va (nI lo) (nI hi) = true ∧ ¬ va = un
  · rw [if_pos e] at h
    exact (cBF_0 h).1
  · rw [if_neg e] at h
    exact absurd h (cBl_ne (by decide))
theorem cLk_on {fm pl kd : Int32} {st : Nat} {va : Int32} {lo hi : Nat} {un : Int32} (h : ¬ fm = 0) : cLk fm pl kd st va lo hi un = (fm, pl) := by
  unfold cLk
  rw [cBF_on h]
  by_cases e : hsin va (nI lo) (nI hi) = true ∧ ¬ va = un
  · rw [if_pos e]
  · rw [if_neg e, cBl_on h]
theorem cTN_0 {f : Nat → Int32} {len : Nat} {fm pl kd : Int32} {st be : Nat} {va : Int32} {lo hi : Nat} {un : Int32} (h : (cTN f len fm pl kd st be va lo hi un).2.1.1 = 0) : fm = 0 := by
  by_cases e : (cLk fm pl kd st va lo hi un).1 = 0
  · exact cLk_0 e
  · rw [cTN_no e] at h
    exact absurd h e
theorem cTN_on {f : Nat → Int32} {len : Nat} {fm pl kd : Int32} {st be : Nat} {va : Int32} {lo hi : Nat} {un : Int32} (h : ¬ fm = 0) : (cTN f len fm pl kd st be va lo hi un).2 = ((fm, pl), (kd, st, be, va)) := by
  rw [cTN_no (by rw [cLk_on h]; exact h), cLk_on h]
theorem cCE_ft {b : Int32 × Int32} {t : Int32 × Nat × Nat × Int32} {u : (Nat × Nat) × Int32 × Int32 × Nat × Int32} (h : hSyU b t u) (hf : ¬ u.2.2.2.1 = 0) : cCE b t = b := by
  unfold cCE
  rcases h with ⟨_, h2, _⟩ | ⟨_, h2, _, _⟩ | ⟨h1, _, _⟩
  · exact absurd h2 hf
  · rw [if_neg (by rw [h2]; decide)]
  · by_cases e : t.1 = 2
    · rw [if_pos e, cBl_on h1]
    · rw [if_neg e]
theorem cCl_ft {f : Nat → Int32} {len n c : Nat} {w : Nat → Int32} {b : Int32 × Int32} {t : Int32 × Nat × Nat × Int32} {u : (Nat × Nat) × Int32 × Int32 × Nat × Int32} (hc : 2 ≤ c) (h : hSyU b t u) (hf : ¬ u.2.2.2.1 = 0) : cCl f len n c w b t = (c, w, b, t) := by
  obtain ⟨fm, pl⟩ := b
  obtain ⟨kd, st, be, va⟩ := t
  refine cCl_stop (Or.inr (fun z => ?_))
  rcases h with ⟨_, h2, _⟩ | ⟨_, h2, _, _⟩ | ⟨h1, _, _⟩
  · exact absurd h2 hf
  · rcases z.2 with h9 | h9
    · omega
    · have h3 : kd = 4 := h2
      rw [h3] at h9
      exact absurd h9 (by decide)
  · exact absurd z.1 h1
/-- what CELLS come to, out of the state that the loop has come to -/
theorem cTC_ft {f : Nat → Int32} {len n c : Nat} {w w0 : Nat → Int32} {fm pl kd : Int32} {st be : Nat} {va : Int32} {b : Int32 × Int32} {t : Int32 × Nat × Nat × Int32} {u : (Nat × Nat) × Int32 × Int32 × Nat × Int32} (e : cCl f len n c w b t = cCl f len 8 0 w0 (fm, pl) (kd, st, be, va)) (hc : 2 ≤ c) (h : hSyU b t u) (hf : ¬ u.2.2.2.1 = 0) : hSyU (cTC f len w0 fm pl kd st be va).2.2.1 (cTC f len w0 fm pl kd st be va).2.2.2 u := by
  unfold cTC
  rw [← e, cCl_ft hc h hf]
  show hSyU (cCE b t) t u
  rw [cCE_ft h hf]
  exact h
theorem cTC_start {f : Nat → Int32} {len : Nat} {w : Nat → Int32} {fm pl kd : Int32} {st be : Nat} {va : Int32} {u : (Nat × Nat) × Int32 × Int32 × Nat × Int32} {T1 T2 : Int32 × (Int32 × Int32) × (Int32 × Nat × Nat × Int32)} (e1 : T1 = cTN f len fm pl kd st be va 0 9 (-4)) (e2 : T2 = cTN f len T1.2.1.1 T1.2.1.2 T1.2.2.1 T1.2.2.2.1 T1.2.2.2.2.1 T1.2.2.2.2.2 0 9 (-4)) (h : hSyU T2.2.1 T2.2.2 u) (hf : ¬ u.2.2.2.1 = 0) : hSyU (cTC f len w fm pl kd st be va).2.2.1 (cTC f len w fm pl kd st be va).2.2.2 u := by
  by_cases h0 : fm = 0
  · by_cases h1 : T1.2.1.1 = 0
    · refine cTC_ft (n := 6) (c := 2) (w := upd (upd w 0 T1.1) 1 T2.1) (b := T2.2.1) (t := T2.2.2) ?_ (by decide) h hf
      rw [cCl_step (n := 7) ⟨h0, Or.inl (by decide)⟩, ← e1]
      have e3 : cCl f len 7 1 (upd w 0 T1.1) T1.2.1 T1.2.2 = cCl f len 6 2 (upd (upd w 0 T1.1) 1 T2.1) T2.2.1 T2.2.2 := by
        rw [e2]
        exact cCl_step (fm := T1.2.1.1) (pl := T1.2.1.2) (kd := T1.2.2.1) (st := T1.2.2.2.1) (be := T1.2.2.2.2.1) (va := T1.2.2.2.2.2) ⟨h1, Or.inl (by decide)⟩
      exact e3.symm
    · have h2 : T2.2 = T1.2 := by
        rw [e2]
        exact cTN_on h1
      have e3 : cCl f len 8 0 w (fm, pl) (kd, st, be, va) = (1, upd w 0 T1.1, T1.2.1, T1.2.2) := by
        rw [cCl_step (n := 7) ⟨h0, Or.inl (by decide)⟩, ← e1]
        exact cCl_stop (fm := T1.2.1.1) (pl := T1.2.1.2) (kd := T1.2.2.1) (st := T1.2.2.2.1) (be := T1.2.2.2.2.1) (va := T1.2.2.2.2.2) (Or.inr (fun z => h1 z.1))
      unfold cTC
      rw [e3]
      rw [h2] at h
      show hSyU (cCE T1.2.1 T1.2.2) T1.2.2 u
      rw [cCE_ft h hf]
      exact h
  · have e4 : T1.2 = ((fm, pl), (kd, st, be, va)) := by rw [e1]; exact cTN_on h0
    have e5 : T2.2 = ((fm, pl), (kd, st, be, va)) := by
      rw [e2, cTN_on (by rw [e4]; exact h0), e4]
    rw [e5] at h
    have e3 : cCl f len 8 0 w (fm, pl) (kd, st, be, va) = (0, w, (fm, pl), (kd, st, be, va)) := cCl_stop (Or.inr (fun z => h0 z.1))
    unfold cTC
    rw [e3]
    show hSyU (cCE (fm, pl) (kd, st, be, va)) (kd, st, be, va) u
    rw [cCE_ft h hf]
    exact h
theorem cTC_begin {f : Nat → Int32} {len : Nat} {w : Nat → Int32} {fm pl kd : Int32} {st be : Nat} {va : Int32} {T1 T2 : Int32 × (Int32 × Int32) × (Int32 × Nat × Nat × Int32)} (e1 : T1 = cTN f len fm pl kd st be va 0 9 (-4)) (e2 : T2 = cTN f len T1.2.1.1 T1.2.1.2 T1.2.2.1 T1.2.2.2.1 T1.2.2.2.2.1 T1.2.2.2.2.2 0 9 (-4)) (h : T2.2.1.1 = 0) : cCl f len 6 2 (upd (upd w 0 T1.1) 1 T2.1) T2.2.1 T2.2.2 = cCl f len 8 0 w (fm, pl) (kd, st, be, va) := by
  have h1 : T1.2.1.1 = 0 := by rw [e2] at h; exact cTN_0 h
  have h0 : fm = 0 := by rw [e1] at h1; exact cTN_0 h1
  rw [cCl_step (n := 7) ⟨h0, Or.inl (by decide)⟩, ← e1]
  have e3 : cCl f len 7 1 (upd w 0 T1.1) T1.2.1 T1.2.2 = cCl f len 6 2 (upd (upd w 0 T1.1) 1 T2.1) T2.2.1 T2.2.2 := by
    rw [e2]
    exact cCl_step (fm := T1.2.1.1) (pl := T1.2.1.2) (kd := T1.2.2.1) (st := T1.2.2.2.1) (be := T1.2.2.2.2.1) (va := T1.2.2.2.2.2) ⟨h1, Or.inl (by decide)⟩
  exact e3.symm
theorem hSyU_0 {b : Int32 × Int32} {t : Int32 × Nat × Nat × Int32} {u : (Nat × Nat) × Int32 × Int32 × Nat × Int32} (h : hSyU b t u) (hf : u.2.2.2.1 = 0) : b.1 = 0 ∧ ¬ t.1 = 4 ∧ u.1.2 = t.2.1 ∧ u.1.1 = t.2.2.1 ∧ u.2.1 = t.1 ∧ (t.1 = 2 → u.2.2.1 = t.2.2.2) := hSy_0 h hf
theorem cCl_step2 {f : Nat → Int32} {len n c : Nat} {w : Nat → Int32} {b : Int32 × Int32} {t : Int32 × Nat × Nat × Int32} (h : b.1 = 0 ∧ (c < 2 ∨ t.1 = 2)) : cCl f len (n + 1) c w b t = cCl f len n (c + 1) (upd w c (cTN f len b.1 b.2 t.1 t.2.1 t.2.2.1 t.2.2.2 0 9 (-4)).1) (cTN f len b.1 b.2 t.1 t.2.1 t.2.2.1 t.2.2.2 0 9 (-4)).2.1 (cTN f len b.1 b.2 t.1 t.2.1 t.2.2.1 t.2.2.2 0 9 (-4)).2.2 := by
  rw [cCl]
  exact if_pos h
theorem cCE_2 {b : Int32 × Int32} {t : Int32 × Nat × Nat × Int32} (hb : b.1 = 0) (h : t.1 = 2) : ¬ (cCE b t).1 = 0 ∧ (cCE b t).2 = nI t.2.1 := by
  unfold cCE
  rw [if_pos h, cBl, if_pos hb]
  refine ⟨?_, rfl⟩
  by_cases e : t.2.2.2 ≤ 9
  · rw [if_pos e]; exact (by decide : ¬ (5 : Int32) = 0)
  · rw [if_neg e]; exact (by decide : ¬ (3 : Int32) = 0)
theorem cTC_full {f : Nat → Int32} {len : Nat} {w w0 : Nat → Int32} {fm pl kd : Int32} {st be : Nat} {va : Int32} {b : Int32 × Int32} {t : Int32 × Nat × Nat × Int32} {u : (Nat × Nat) × Int32 × Int32 × Nat × Int32} (e : cCl f len 0 8 w b t = cCl f len 8 0 w0 (fm, pl) (kd, st, be, va)) (hne : ¬ (cCE b t).1 = 0) (h : hSyU (cTN f len (cCE b t).1 (cCE b t).2 t.1 t.2.1 t.2.2.1 t.2.2.2 0 9 (-4)).2.1 (cTN f len (cCE b t).1 (cCE b t).2 t.1 t.2.1 t.2.2.1 t.2.2.2 0 9 (-4)).2.2 u) : hSyU (cTC f len w0 fm pl kd st be va).2.2.1 (cTC f len w0 fm pl kd st be va).2.2.2 u := by
  unfold cTC
  rw [← e]
  rw [cTN_on hne] at h
  exact h
theorem cTC_done {f : Nat → Int32} {len n c : Nat} {w w0 : Nat → Int32} {fm pl kd : Int32} {st be : Nat} {va : Int32} {b : Int32 × Int32} {t : Int32 × Nat × Nat × Int32} (e : cCl f len n c w b t = cCl f len 8 0 w0 (fm, pl) (kd, st, be, va)) (hc : 2 ≤ c) (ht : ¬ t.1 = 2) : cTC f len w0 fm pl kd st be va = (c, w, b, t) := by
  have e2 : cCl f len n c w b t = (c, w, b, t) := cCl_stop (fm := b.1) (pl := b.2) (kd := t.1) (st := t.2.1) (be := t.2.2.1) (va := t.2.2.2) (Or.inr (fun z => z.2.elim (fun h9 => absurd h9 (by omega)) ht))
  unfold cTC
  rw [← e, e2]
  show (c, w, cCE b t, t) = (c, w, b, t)
  rw [cCE, if_neg ht]

set_option maxHeartbeats 4000000 in
set_option maxRecDepth 100000 in
theorem gr_readThing (l : Launch) (D : va_G) (k : Nat → ClassId) (sz : Nat) (mo : Nat) (mo_st : Nat) (mo_at : Nat) (mo_isKept : Nat) (mo_pe : Nat) (mo_hm : Nat) (mo_draft : Nat) (mo_dp : Nat) (mo_dh : Nat) (mo_toldLines : Int32) (mo_highest : Int32) (mo_tape : Nat) (mo_tl : Nat) (mo_ps : Nat) (mo_fr : Nat) (mo_sort : Int32) (mo_value : Int32) (mo_ft : Nat) (mo_wrongAt : Int32) (mo_row : Nat) (mo_orderMany : Int32) (mo_fo : Nat) (mo_lightest : Int32) (mo_heaviest : Int32) (mo_before : Nat) (mo_justSum : Int64) (mo_toldSum : Int64) (mo_allWays : Int64) (mo_lanes : Nat) (mo_sizes : Nat) (mo_cells : Nat) (mo_torn : Int32) (mo_had : Nat) (tf : Nat → Int32) (df : Nat → Int32) (fm : Int32) (pl : Int32) (kd : Int32) (st : Nat) (be : Nat) (va : Int32) (w : Nat → Int32) (ht : mo_tl ≤ 160) (hps : mo_ps ≤ mo_tl) (hfr : mo_fr ≤ 160) (hft : mo_ft ≤ 7) (hby : ∀ q, q < mo_tl → ¬ tf q < 0) (hsy : hSy fm pl kd st be va mo_ft mo_wrongAt mo_sort mo_fr mo_ps mo_value) : MV l yX8_readThing wsX8_readThing ({ frames := 3, cells := 0, slots := 0, locals := 70 }) D k [.ref mo] [oq7 mo mo_st mo_at mo_isKept (nI mo_pe) (nI mo_hm) mo_draft (nI mo_dp) (nI mo_dh) mo_toldLines mo_highest mo_tape (nI mo_tl) (nI mo_ps) (nI mo_fr) mo_sort mo_value (nI mo_ft) mo_wrongAt mo_row mo_orderMany (nI mo_fo) mo_lightest mo_heaviest mo_before mo_justSum mo_toldSum mo_allWays mo_lanes mo_sizes mo_cells mo_torn mo_had, oqI k mo_tape 160 (tf), oqI k mo_draft 44 (df)] sz (fun (u : ((Nat × Nat) × Int32 × Int32 × Nat × Int32) × (Nat → Int32)) => ((u.1.1.1 ≤ mo_tl ∧ u.1.1.2 ≤ 160 ∧ u.1.2.2.2.1 ≤ 7 ∧ (u.1.2.2.2.1 = 0 → (mo_ft = 0 ∧ mo_ps ≤ u.1.1.2 ∧ u.1.1.2 ≤ u.1.1.1 ∧ (u.1.2.1 = 0 ∨ u.1.1.2 < u.1.1.1)))) ∧ (∃ cx : Nat, u.2 0 = nI cx ∧ 2 ≤ cx ∧ cx ≤ 8) ∧ ∀ q, 9 ≤ q → u.2 q = df q) ∧ hSyU (cTC tf mo_tl w fm pl kd st be va).2.2.1 (cTC tf mo_tl w fm pl kd st be va).2.2.2 u.1 ∧ (u.1.2.2.2.1 = 0 → (u.2 0 = nI (cTC tf mo_tl w fm pl kd st be va).1 ∧ 2 ≤ (cTC tf mo_tl w fm pl kd st be va).1 ∧ ∀ j, j < (cTC tf mo_tl w fm pl kd st be va).1 → u.2 (1 + j) = (cTC tf mo_tl w fm pl kd st be va).2.1 j))) (fun (u : ((Nat × Nat) × Int32 × Int32 × Nat × Int32) × (Nat → Int32)) => [oq7 mo mo_st mo_at mo_isKept (nI mo_pe) (nI mo_hm) mo_draft (nI mo_dp) (nI mo_dh) mo_toldLines mo_highest mo_tape (nI mo_tl) (nI (u.1.1.1)) (nI (u.1.1.2)) u.1.2.1 u.1.2.2.1 (nI (u.1.2.2.2.1)) u.1.2.2.2.2 mo_row mo_orderMany (nI mo_fo) mo_lightest mo_heaviest mo_before mo_justSum mo_toldSum mo_allWays mo_lanes mo_sizes mo_cells mo_torn mo_had, oqI k mo_tape 160 (tf), oqI k mo_draft 44 (u.2)]) := by
  refine Met.ofW (cc := cX8_readThing) (maxL := 2) (ret := none) hpn_X8 rfl ?_
  intro p e s m args below meth c s₁ B hml hv
  obtain ⟨rfl, hsz, hP, hK, hD0, hN⟩ := hv
  have hx := B.exec
  have hb := B.bytes
  have hr := B.returns
  have hlocks := B.notSynchronized
  have hts := atoms_spec (ws := wsX8_readThing) B.pre
  have hown := findClass_of_methodNamed B.named
  have hown : s.vm.findClass RX8 = some m.cls := hown
  have hiX8 : ∀ w ∈ u_ws RX8 TX8 32, w ∈ wsX8_readThing := fun w9 hw9 => List.mem_cons_of_mem _ (igX8 w9 hw9)
  have fl20 := hts (.fieldLink RX8 20 "HalfScalesModel" "draft" "[I") (List.mem_cons_of_mem _ (hs_inG 4 85 rfl rfl))
  have fl78 := hts (.fieldLink RX8 78 "HalfScalesModel" "fault" "I") (List.mem_cons_of_mem _ (hs_inG 4 96 rfl rfl))
  have fl101 := hts (.fieldLink RX8 101 "HalfScalesModel" "sort" "I") (List.mem_cons_of_mem _ (hs_inG 4 94 rfl rfl))
  subst hsz
  have hD := hD0.self (sz := s.heap.size)
  generalize hAe : va_A [oq7 mo mo_st mo_at mo_isKept (nI mo_pe) (nI mo_hm) mo_draft (nI mo_dp) (nI mo_dh) mo_toldLines mo_highest mo_tape (nI mo_tl) (nI mo_ps) (nI mo_fr) mo_sort mo_value (nI mo_ft) mo_wrongAt mo_row mo_orderMany (nI mo_fo) mo_lightest mo_heaviest mo_before mo_justSum mo_toldSum mo_allWays mo_lanes mo_sizes mo_cells mo_torn mo_had, oqI k mo_tape 160 (tf), oqI k mo_draft 44 (df)] s.heap.size = A at hD ⊢
  have hA : ∀ q : Nat, s.heap.size ≤ q → A q := fun q h => by rw [← hAe]; exact Or.inr h
  have hS : va_S A s.heap s.heap [] := va_S.rf
  have hl := lv_entry ([.ref mo]) (n := 2) (Nat.le_of_ble_eq_true rfl)
  rw [lg_entry_eq]
  generalize (lg_sl ([.ref mo]) ++ List.replicate (2 - (lg_sl ([.ref mo])).length) Slot.unset).toArray = ls at hl ⊢
  have hl : lv_has ls 2 [(0, .ref mo)] := hl
  have hP : va_P D vwCl [oq7 mo mo_st mo_at mo_isKept (nI mo_pe) (nI mo_hm) mo_draft (nI mo_dp) (nI mo_dh) mo_toldLines mo_highest mo_tape (nI mo_tl) (nI mo_ps) (nI mo_fr) mo_sort mo_value (nI mo_ft) mo_wrongAt mo_row mo_orderMany (nI mo_fo) mo_lightest mo_heaviest mo_before mo_justSum mo_toldSum mo_allWays mo_lanes mo_sizes mo_cells mo_torn mo_had, oqI k mo_tape 160 (tf), oqI k mo_draft 44 (df)] s.heap := hP
  refine lv_aload_n hx hb dX8_readThing_0 rfl (lv_at hl 0 rfl) ?_
  refine va_get (D := D) (ci := 7) (v := .ref mo_draft) (C := RX8) (T := TX8) (N := 32) hx hb hts hiX8 hown hK hP 0 rfl rfl 5 (Nat.le_of_ble_eq_true rfl) fl20 (fun _ h9 => h9) rfl dX8_readThing_1 ?_
  refine lv_iconst (v := 1) hx hb dX8_readThing_4 hki_1 ?_
  refine lv_aload_n hx hb dX8_readThing_5 rfl (lv_at hl 0 rfl) ?_
  refine lv_iconst (v := 0) hx hb dX8_readThing_6 hki_0 ?_
  refine lv_bipush (v := 9) hx hb dX8_readThing_7 hkb_9 ?_
  refine hs_ciM (va_runV (As := [.int 0, .int 9]) (rest := [.int 1, .ref mo_draft]) ⟨hx, hb, hml, hown, hts⟩ (gr_readNumber l D k _ mo mo_st mo_at mo_isKept mo_pe mo_hm mo_draft mo_dp mo_dh mo_toldLines mo_highest mo_tape mo_tl mo_ps mo_fr mo_sort mo_value mo_ft mo_wrongAt mo_row mo_orderMany mo_fo mo_lightest mo_heaviest mo_before mo_justSum mo_toldSum mo_allWays mo_lanes mo_sizes mo_cells mo_torn mo_had tf 0 9 fm pl kd st be va (by omega) (by omega) (by omega) (by omega) hby (by omega) (by omega) hsy) (cwV 2 hts gX8_readThing_X8_readNumber rfl rfl rfl ⟨rfl, hq_X8_readNumber⟩ ⟨Nat.le_of_ble_eq_true rfl, Nat.le_of_ble_eq_true rfl⟩) (hs_preV hK hN (hs_subP (w := [_, _]) hP [0, 1] rfl) (hD.sub (ws' := [_, _]) [0, 1] (hs_upnd rfl) rfl) (ci := 7) (q0 := 0) rfl rfl) rfl rfl hl.1 rfl (lv_room (Nat.le_of_ble_eq_true rfl)) dX8_readThing_9 ⟨Nat.le_of_ble_eq_true rfl, Nat.le_of_ble_eq_true rfl⟩) hP hD hS hA [false, false, true] [_] [_, _] rfl [0, 1] rfl [0, 1] (fun u_3 => [_, _]) (fun _ => rfl) (hs_upnd rfl) [false, false, true] (fun u_3 => [_, _, _]) (fun _ => rfl) (fun r_1 u_3 H locs hw_2 hP hD hS => ?_)
  have hw_2 : r_1 = nI u_3.1 ∧ (u_3.1 ≤ 9 ∧ (u_3.2.2.2.2.1 = 0 → (mo_ft = 0 ∧ 0 ≤ u_3.1 ∧ mo_ps ≤ u_3.2.1.2 ∧ u_3.2.1.2 ≤ u_3.2.1.1 ∧ (u_3.2.2.1 = 0 ∨ u_3.2.1.2 < u_3.2.1.1))) ∧ u_3.2.1.1 ≤ mo_tl ∧ u_3.2.1.2 ≤ 160 ∧ u_3.2.2.2.2.1 ≤ 7) ∧ hSyU (cTN tf mo_tl fm pl kd st be va 0 9 (-4)).2.1 (cTN tf mo_tl fm pl kd st be va 0 9 (-4)).2.2 u_3.2 ∧ ((cTN tf mo_tl fm pl kd st be va 0 9 (-4)).2.1.1 = 0 → nI u_3.1 = (cTN tf mo_tl fm pl kd st be va 0 9 (-4)).1) := hw_2
  refine hs_topi (nI (u_3.1)) hw_2.1 ?_
  refine va_iast hx hb hK hP hD hS 2 0 rfl rfl (hs_in (by decide)) dX8_readThing_12 (fun H locs hP hD hS => ?_)
  have hP : va_P D vwCl [_, _, oqI k mo_draft 44 (upd df 1 (nI (u_3.1)))] H := hP
  have hD : va_D A [_, _, oqI k mo_draft 44 (upd df 1 (nI (u_3.1)))] := hD
  refine lv_aload_n hx hb dX8_readThing_13 rfl (lv_at hl 0 rfl) ?_
  refine va_get (D := D) (ci := 7) (v := .ref mo_draft) (C := RX8) (T := TX8) (N := 32) hx hb hts hiX8 hown hK hP 0 rfl rfl 5 (Nat.le_of_ble_eq_true rfl) fl20 (fun _ h9 => h9) rfl dX8_readThing_14 ?_
  refine lv_iconst (v := 2) hx hb dX8_readThing_17 hki_2 ?_
  refine lv_aload_n hx hb dX8_readThing_18 rfl (lv_at hl 0 rfl) ?_
  refine lv_iconst (v := 0) hx hb dX8_readThing_19 hki_0 ?_
  refine lv_bipush (v := 9) hx hb dX8_readThing_20 hkb_9 ?_
  refine hs_ciM (va_runV (As := [.int 0, .int 9]) (rest := [.int 2, .ref mo_draft]) ⟨hx, hb, hml, hown, hts⟩ (gr_readNumber l D k _ mo mo_st mo_at mo_isKept mo_pe mo_hm mo_draft mo_dp mo_dh mo_toldLines mo_highest mo_tape mo_tl u_3.2.1.1 u_3.2.1.2 u_3.2.2.1 u_3.2.2.2.1 u_3.2.2.2.2.1 u_3.2.2.2.2.2 mo_row mo_orderMany mo_fo mo_lightest mo_heaviest mo_before mo_justSum mo_toldSum mo_allWays mo_lanes mo_sizes mo_cells mo_torn mo_had tf 0 9 ((cTN tf mo_tl fm pl kd st be va 0 9 (-4)).2.1.1) ((cTN tf mo_tl fm pl kd st be va 0 9 (-4)).2.1.2) ((cTN tf mo_tl fm pl kd st be va 0 9 (-4)).2.2.1) ((cTN tf mo_tl fm pl kd st be va 0 9 (-4)).2.2.2.1) ((cTN tf mo_tl fm pl kd st be va 0 9 (-4)).2.2.2.2.1) ((cTN tf mo_tl fm pl kd st be va 0 9 (-4)).2.2.2.2.2) (by omega) (by omega) (by omega) (by omega) hby (by omega) (by omega) hw_2.2.2.1) (cwV 2 hts gX8_readThing_X8_readNumber rfl rfl rfl ⟨rfl, hq_X8_readNumber⟩ ⟨Nat.le_of_ble_eq_true rfl, Nat.le_of_ble_eq_true rfl⟩) (hs_preV hK hN (hs_subP (w := [_, _]) hP [0, 1] rfl) (hD.sub (ws' := [_, _]) [0, 1] (hs_upnd rfl) rfl) (ci := 7) (q0 := 0) rfl rfl) rfl rfl hl.1 rfl (lv_room (Nat.le_of_ble_eq_true rfl)) dX8_readThing_22 ⟨Nat.le_of_ble_eq_true rfl, Nat.le_of_ble_eq_true rfl⟩) hP hD hS hA [false, false, true] [_] [_, _] rfl [0, 1] rfl [0, 1] (fun u_6 => [_, _]) (fun _ => rfl) (hs_upnd rfl) [false, false, true] (fun u_6 => [_, _, _]) (fun _ => rfl) (fun r_4 u_6 H locs hw_5 hP hD hS => ?_)
  have hw_5 : r_4 = nI u_6.1 ∧ (u_6.1 ≤ 9 ∧ (u_6.2.2.2.2.1 = 0 → (u_3.2.2.2.2.1 = 0 ∧ 0 ≤ u_6.1 ∧ u_3.2.1.1 ≤ u_6.2.1.2 ∧ u_6.2.1.2 ≤ u_6.2.1.1 ∧ (u_6.2.2.1 = 0 ∨ u_6.2.1.2 < u_6.2.1.1))) ∧ u_6.2.1.1 ≤ mo_tl ∧ u_6.2.1.2 ≤ 160 ∧ u_6.2.2.2.2.1 ≤ 7) ∧ hSyU (cTN tf mo_tl ((cTN tf mo_tl fm pl kd st be va 0 9 (-4)).2.1.1) ((cTN tf mo_tl fm pl kd st be va 0 9 (-4)).2.1.2) ((cTN tf mo_tl fm pl kd st be va 0 9 (-4)).2.2.1) ((cTN tf mo_tl fm pl kd st be va 0 9 (-4)).2.2.2.1) ((cTN tf mo_tl fm pl kd st be va 0 9 (-4)).2.2.2.2.1) ((cTN tf mo_tl fm pl kd st be va 0 9 (-4)).2.2.2.2.2) 0 9 (-4)).2.1 (cTN tf mo_tl ((cTN tf mo_tl fm pl kd st be va 0 9 (-4)).2.1.1) ((cTN tf mo_tl fm pl kd st be va 0 9 (-4)).2.1.2) ((cTN tf mo_tl fm pl kd st be va 0 9 (-4)).2.2.1) ((cTN tf mo_tl fm pl kd st be va 0 9 (-4)).2.2.2.1) ((cTN tf mo_tl fm pl kd st be va 0 9 (-4)).2.2.2.2.1) ((cTN tf mo_tl fm pl kd st be va 0 9 (-4)).2.2.2.2.2) 0 9 (-4)).2.2 u_6.2 ∧ ((cTN tf mo_tl ((cTN tf mo_tl fm pl kd st be va 0 9 (-4)).2.1.1) ((cTN tf mo_tl fm pl kd st be va 0 9 (-4)).2.1.2) ((cTN tf mo_tl fm pl kd st be va 0 9 (-4)).2.2.1) ((cTN tf mo_tl fm pl kd st be va 0 9 (-4)).2.2.2.1) ((cTN tf mo_tl fm pl kd st be va 0 9 (-4)).2.2.2.2.1) ((cTN tf mo_tl fm pl kd st be va 0 9 (-4)).2.2.2.2.2) 0 9 (-4)).2.1.1 = 0 → nI u_6.1 = (cTN tf mo_tl ((cTN tf mo_tl fm pl kd st be va 0 9 (-4)).2.1.1) ((cTN tf mo_tl fm pl kd st be va 0 9 (-4)).2.1.2) ((cTN tf mo_tl fm pl kd st be va 0 9 (-4)).2.2.1) ((cTN tf mo_tl fm pl kd st be va 0 9 (-4)).2.2.2.1) ((cTN tf mo_tl fm pl kd st be va 0 9 (-4)).2.2.2.2.1) ((cTN tf mo_tl fm pl kd st be va 0 9 (-4)).2.2.2.2.2) 0 9 (-4)).1) := hw_5
  refine hs_topi (nI (u_6.1)) hw_5.1 ?_
  refine va_iast hx hb hK hP hD hS 2 0 rfl rfl (hs_in (by decide)) dX8_readThing_25 (fun H locs hP hD hS => ?_)
  have hP : va_P D vwCl [_, _, oqI k mo_draft 44 (upd (upd df 1 (nI (u_3.1))) 2 (nI (u_6.1)))] H := hP
  have hD : va_D A [_, _, oqI k mo_draft 44 (upd (upd df 1 (nI (u_3.1))) 2 (nI (u_6.1)))] := hD
  refine lv_aload_n hx hb dX8_readThing_26 rfl (lv_at hl 0 rfl) ?_
  refine va_get (D := D) (ci := 7) (v := .ref mo_draft) (C := RX8) (T := TX8) (N := 32) hx hb hts hiX8 hown hK hP 0 rfl rfl 5 (Nat.le_of_ble_eq_true rfl) fl20 (fun _ h9 => h9) rfl dX8_readThing_27 ?_
  refine lv_iconst (v := 0) hx hb dX8_readThing_30 hki_0 ?_
  refine lv_iconst (v := 2) hx hb dX8_readThing_31 hki_2 ?_
  refine va_iast hx hb hK hP hD hS 2 0 rfl rfl (hs_in (by decide)) dX8_readThing_32 (fun H locs hP hD hS => ?_)
  have hP : va_P D vwCl [_, _, oqI k mo_draft 44 (upd (upd (upd df 1 (nI (u_3.1))) 2 (nI (u_6.1))) 0 2)] H := hP
  have hD : va_D A [_, _, oqI k mo_draft 44 (upd (upd (upd df 1 (nI (u_3.1))) 2 (nI (u_6.1))) 0 2)] := hD
  refine hs_while (σ := (Nat → Int32) × Nat × Nat × Int32 × Int32 × Nat × Int32) (fun x => x.2.1 ≤ mo_tl ∧ x.2.2.1 ≤ 160 ∧ x.2.2.2.2.2.1 ≤ 7 ∧ (x.2.2.2.2.2.1 = 0 → (mo_ft = 0 ∧ mo_ps ≤ x.2.2.1 ∧ x.2.2.1 ≤ x.2.1 ∧ (x.2.2.2.1 = 0 ∨ x.2.2.1 < x.2.1))) ∧ (∃ cx : Nat, x.1 0 = nI cx ∧ 2 ≤ cx ∧ cx ≤ 8) ∧ (∀ q, 9 ≤ q → x.1 q = df q) ∧ (x.2.2.2.2.2.1 = 0 → ∃ (c : Nat) (w1 : Nat → Int32) (b9 : Int32 × Int32) (t9 : Int32 × Nat × Nat × Int32), cCl tf mo_tl (8 - c) c w1 b9 t9 = cCl tf mo_tl 8 0 w (fm, pl) (kd, st, be, va) ∧ hSyU b9 t9 ((x.2.1, x.2.2.1), x.2.2.2.1, x.2.2.2.2.1, x.2.2.2.2.2.1, x.2.2.2.2.2.2) ∧ x.1 0 = nI c ∧ 2 ≤ c ∧ c ≤ 8 ∧ ∀ j, j < c → x.1 (1 + j) = w1 j) ∧ (¬ x.2.2.2.2.2.1 = 0 → hSyU (cTC tf mo_tl w fm pl kd st be va).2.2.1 (cTC tf mo_tl w fm pl kd st be va).2.2.2 ((x.2.1, x.2.2.1), x.2.2.2.1, x.2.2.2.2.1, x.2.2.2.2.2.1, x.2.2.2.2.2.2))) (fun x => if x.2.2.2.2.2.1 = 0 then mo_tl - x.2.2.1 else 0) (fun x => [oq7 mo mo_st mo_at mo_isKept (nI mo_pe) (nI mo_hm) mo_draft (nI mo_dp) (nI mo_dh) mo_toldLines mo_highest mo_tape (nI mo_tl) (nI (x.2.1)) (nI (x.2.2.1)) (x.2.2.2.1) (x.2.2.2.2.1) (nI (x.2.2.2.2.2.1)) (x.2.2.2.2.2.2) mo_row mo_orderMany (nI mo_fo) mo_lightest mo_heaviest mo_before mo_justSum mo_toldSum mo_allWays mo_lanes mo_sizes mo_cells mo_torn mo_had, oqI k mo_tape 160 (tf), oqI k mo_draft 44 ((x.1))]) (fun x => [(0, .ref mo)]) ?_ (upd (upd (upd df 1 (nI (u_3.1))) 2 (nI (u_6.1))) 0 2, u_6.2.1.1, u_6.2.1.2, u_6.2.2.1, u_6.2.2.2.1, u_6.2.2.2.2.1, u_6.2.2.2.2.2) ?_ hP hD hS hl
  · intro x hI ih33 H locs ls hP hD hS hl
    obtain ⟨dg, tpo, tfr, tso, tva, tfa, twr⟩ := x
    try dsimp only at hI
    have hP : va_P D vwCl [oq7 mo mo_st mo_at mo_isKept (nI mo_pe) (nI mo_hm) mo_draft (nI mo_dp) (nI mo_dh) mo_toldLines mo_highest mo_tape (nI mo_tl) (nI tpo) (nI tfr) tso tva (nI tfa) twr mo_row mo_orderMany (nI mo_fo) mo_lightest mo_heaviest mo_before mo_justSum mo_toldSum mo_allWays mo_lanes mo_sizes mo_cells mo_torn mo_had, _, oqI k mo_draft 44 (dg)] H := hP
    have hD : va_D A [oq7 mo mo_st mo_at mo_isKept (nI mo_pe) (nI mo_hm) mo_draft (nI mo_dp) (nI mo_dh) mo_toldLines mo_highest mo_tape (nI mo_tl) (nI tpo) (nI tfr) tso tva (nI tfa) twr mo_row mo_orderMany (nI mo_fo) mo_lightest mo_heaviest mo_before mo_justSum mo_toldSum mo_allWays mo_lanes mo_sizes mo_cells mo_torn mo_had, _, oqI k mo_draft 44 (dg)] := hD
    have hl : lv_has ls 2 [(0, .ref mo)] := hl
    refine lv_aload_n hx hb dX8_readThing_33 rfl (lv_at hl 0 rfl) ?_
    refine va_get (D := D) (ci := 7) (v := .int (nI tfa)) (C := RX8) (T := TX8) (N := 32) hx hb hts hiX8 hown hK hP 0 rfl rfl 16 (Nat.le_of_ble_eq_true rfl) fl78 (fun _ h9 => h9) rfl dX8_readThing_34 ?_
    refine lv_if_ne (tgt := 111) hx hb dX8_readThing_37 rfl (fun c_7 => ?_) (fun c_7 => ?_)
    · have nc_7 : ¬ tfa = 0 := fun hq9 => c_7 ((nI_eq (a := tfa) (b := 0) (by omega) (by omega)).mpr hq9)
      exact hs_vret hx hb hr hlocks hK hP hD hS (((tpo, tfr), tso, tva, tfa, twr), dg) [0, 1, 2] rfl (hs_upnd rfl) dX8_readThing_111 (⟨⟨⟨hI.1, hI.2.1, hI.2.2.1, hI.2.2.2.1⟩, hI.2.2.2.2.1, hI.2.2.2.2.2.1⟩, hI.2.2.2.2.2.2.2 nc_7, fun h => absurd h nc_7⟩)
    · have nc_7 : tfa = 0 := (nI_eq (a := tfa) (b := 0) (by omega) (by omega)).mp c_7
      refine lv_aload_n hx hb dX8_readThing_40 rfl (lv_at hl 0 rfl) ?_
      refine va_get (D := D) (ci := 7) (v := .int tso) (C := RX8) (T := TX8) (N := 32) hx hb hts hiX8 hown hK hP 0 rfl rfl 14 (Nat.le_of_ble_eq_true rfl) fl101 (fun _ h9 => h9) rfl dX8_readThing_41 ?_
      refine lv_iconst (v := 2) hx hb dX8_readThing_44 hki_2 ?_
      refine lv_icmp_ne (tgt := 111) hx hb dX8_readThing_45 rfl (fun c_8 => ?_) (fun c_8 => ?_)
      · exact hs_vret hx hb hr hlocks hK hP hD hS (((tpo, tfr), tso, tva, tfa, twr), dg) [0, 1, 2] rfl (hs_upnd rfl) dX8_readThing_111 ((by obtain ⟨cx, w1, b9, t9, hcl, hsl, ecx, h2x, h8x, hrel⟩ := hI.2.2.2.2.2.2.1 nc_7; have hz9 := hSyU_0 hsl nc_7; have e9 := cTC_done hcl h2x (fun h8 => c_8 (hz9.2.2.2.2.1.trans h8)); exact ⟨⟨⟨hI.1, hI.2.1, hI.2.2.1, hI.2.2.2.1⟩, hI.2.2.2.2.1, hI.2.2.2.2.2.1⟩, by rw [e9]; exact hsl, fun _ => by rw [e9]; exact ⟨ecx, h2x, hrel⟩⟩))
      · obtain ⟨cx, w1, b9, t9, hcl, hsl, ecx, h2x, h8x, hrel⟩ := hI.2.2.2.2.2.2.1 nc_7
        have hlt := (hI.2.2.2.1 nc_7).2.2.2.resolve_left (fun h9 => absurd (c_8.symm.trans h9) (by decide))
        have hz9 := hSyU_0 hsl nc_7
        have ht2 : t9.1 = 2 := hz9.2.2.2.2.1.symm.trans c_8
        refine lv_aload_n hx hb dX8_readThing_48 rfl (lv_at hl 0 rfl) ?_
        refine lv_aload_n hx hb dX8_readThing_49 rfl (lv_at hl 0 rfl) ?_
        refine va_get (D := D) (ci := 7) (v := .ref mo_draft) (C := RX8) (T := TX8) (N := 32) hx hb hts hiX8 hown hK hP 0 rfl rfl 5 (Nat.le_of_ble_eq_true rfl) fl20 (fun _ h9 => h9) rfl dX8_readThing_50 ?_
        refine lv_iconst (v := 0) hx hb dX8_readThing_53 hki_0 ?_
        refine va_iald hx hb hK hP 2 0 rfl rfl (hs_in (by decide)) dX8_readThing_54 ?_
        refine hs_topi (nI cx) ecx ?_
        refine lv_bipush (v := 8) hx hb dX8_readThing_55 hkb_8 ?_
        refine lv_icmp_ge (tgt := 64) hx hb dX8_readThing_57 rfl (fun c_9 => ?_) (fun c_9 => ?_)
        · have nc_9 : 8 ≤ cx := (nI_leI (a := 8) (b := cx) (by omega) (by omega)).mp c_9
          refine lv_iconst (v := 0) hx hb dX8_readThing_64 hki_0 ?_
          refine lv_iconst (v := 5) hx hb dX8_readThing_65 hki_5 ?_
          refine hs_cvM (va_runV (As := [.int 0, .int 5]) (rest := []) ⟨hx, hb, hml, hown, hts⟩ (gr_needs l D k _ mo mo_st mo_at mo_isKept mo_pe mo_hm mo_draft mo_dp mo_dh mo_toldLines mo_highest mo_tape mo_tl tpo tfr tso tva tfa twr mo_row mo_orderMany mo_fo mo_lightest mo_heaviest mo_before mo_justSum mo_toldSum mo_allWays mo_lanes mo_sizes mo_cells mo_torn mo_had 0 5 (by omega) (by omega)) (cwV 2 hts gX8_readThing_X8_needs rfl rfl rfl ⟨rfl, hq_X8_needs⟩ ⟨Nat.le_of_ble_eq_true rfl, Nat.le_of_ble_eq_true rfl⟩) (hs_preV hK hN (hs_subP (w := [_]) hP [0] rfl) (hD.sub (ws' := [_]) [0] (hs_upnd rfl) rfl) (ci := 7) (q0 := 0) rfl rfl) rfl rfl hl.1 rfl (lv_room (Nat.le_of_ble_eq_true rfl)) dX8_readThing_66 ⟨Nat.le_of_ble_eq_true rfl, Nat.le_of_ble_eq_true rfl⟩) hP hD hS hA [false, true, true] [_, _] [_] rfl [0] rfl [0] (fun u_12 => [_]) (fun _ => rfl) (hs_upnd rfl) [false, true, true] (fun u_12 => [_, _, _]) (fun _ => rfl) (fun u_12 H locs hw_11 hP hD hS => ?_)
          have hw_11 : u_12.1 ≤ 7 ∧ (u_12.1 = 0 → tfa = 0) ∧ ((0 : Int32) = 0 → ¬ u_12.1 = 0) ∧ u_12 = hNd tfa twr tfr 0 5 := hw_11
          have hzhw_11 := hw_11.2.2.1 rfl
          refine lv_aload_n hx hb dX8_readThing_69 rfl (lv_at hl 0 rfl) ?_
          refine lv_iconst (v := 0) hx hb dX8_readThing_70 hki_0 ?_
          refine lv_bipush (v := 9) hx hb dX8_readThing_71 hkb_9 ?_
          refine hs_ciM (va_runV (As := [.int 0, .int 9]) (rest := []) ⟨hx, hb, hml, hown, hts⟩ (gr_readNumber l D k _ mo mo_st mo_at mo_isKept mo_pe mo_hm mo_draft mo_dp mo_dh mo_toldLines mo_highest mo_tape mo_tl tpo tfr tso tva u_12.1 u_12.2 mo_row mo_orderMany mo_fo mo_lightest mo_heaviest mo_before mo_justSum mo_toldSum mo_allWays mo_lanes mo_sizes mo_cells mo_torn mo_had tf 0 9 ((cCE b9 t9).1) ((cCE b9 t9).2) t9.1 t9.2.1 t9.2.2.1 t9.2.2.2 (by omega) (by omega) (by omega) (by omega) hby (by omega) (by omega) (Or.inr (Or.inr ⟨(cCE_2 hz9.1 ht2).1, hzhw_11, by rw [hw_11.2.2.2, hNd, if_pos ⟨rfl, nc_7⟩, (cCE_2 hz9.1 ht2).2, ← hz9.2.2.1]⟩))) (cwV 2 hts gX8_readThing_X8_readNumber rfl rfl rfl ⟨rfl, hq_X8_readNumber⟩ ⟨Nat.le_of_ble_eq_true rfl, Nat.le_of_ble_eq_true rfl⟩) (hs_preV hK hN (hs_subP (w := [_, _]) hP [0, 1] rfl) (hD.sub (ws' := [_, _]) [0, 1] (hs_upnd rfl) rfl) (ci := 7) (q0 := 0) rfl rfl) rfl rfl hl.1 rfl (lv_room (Nat.le_of_ble_eq_true rfl)) dX8_readThing_73 ⟨Nat.le_of_ble_eq_true rfl, Nat.le_of_ble_eq_true rfl⟩) hP hD hS hA [false, false, true] [_] [_, _] rfl [0, 1] rfl [0, 1] (fun u_15 => [_, _]) (fun _ => rfl) (hs_upnd rfl) [false, false, true] (fun u_15 => [_, _, _]) (fun _ => rfl) (fun r_13 u_15 H locs hw_14 hP hD hS => ?_)
          have hw_14 : r_13 = nI u_15.1 ∧ (u_15.1 ≤ 9 ∧ (u_15.2.2.2.2.1 = 0 → (u_12.1 = 0 ∧ 0 ≤ u_15.1 ∧ tpo ≤ u_15.2.1.2 ∧ u_15.2.1.2 ≤ u_15.2.1.1 ∧ (u_15.2.2.1 = 0 ∨ u_15.2.1.2 < u_15.2.1.1))) ∧ u_15.2.1.1 ≤ mo_tl ∧ u_15.2.1.2 ≤ 160 ∧ u_15.2.2.2.2.1 ≤ 7) ∧ hSyU (cTN tf mo_tl ((cCE b9 t9).1) ((cCE b9 t9).2) t9.1 t9.2.1 t9.2.2.1 t9.2.2.2 0 9 (-4)).2.1 (cTN tf mo_tl ((cCE b9 t9).1) ((cCE b9 t9).2) t9.1 t9.2.1 t9.2.2.1 t9.2.2.2 0 9 (-4)).2.2 u_15.2 ∧ ((cTN tf mo_tl ((cCE b9 t9).1) ((cCE b9 t9).2) t9.1 t9.2.1 t9.2.2.1 t9.2.2.2 0 9 (-4)).2.1.1 = 0 → nI u_15.1 = (cTN tf mo_tl ((cCE b9 t9).1) ((cCE b9 t9).2) t9.1 t9.2.1 t9.2.2.1 t9.2.2.2 0 9 (-4)).1) := hw_14
          have hzhw_14 : ¬ u_15.2.2.2.2.1 = 0 := fun h => hzhw_11 (hw_14.2.1.2.1 h).1
          refine hs_topi (nI (u_15.1)) hw_14.1 ?_
          refine lv_istore_n (lv' := [(1, .int (nI (u_15.1))), (0, .ref mo)]) hx hb dX8_readThing_76 rfl hl (Nat.le_of_ble_eq_true rfl) rfl (fun ls hl => ?_)
          refine lv_aload_n hx hb dX8_readThing_77 rfl (lv_at hl 1 rfl) ?_
          refine va_get (D := D) (ci := 7) (v := .int (nI (u_15.2.2.2.2.1))) (C := RX8) (T := TX8) (N := 32) hx hb hts hiX8 hown hK hP 0 rfl rfl 16 (Nat.le_of_ble_eq_true rfl) fl78 (fun _ h9 => h9) rfl dX8_readThing_78 ?_
          refine lv_if_ne (tgt := 108) hx hb dX8_readThing_81 rfl (fun c_16 => ?_) (fun c_16 => absurd ((nI_eq (a := (u_15.2.2.2.2.1)) (b := 0) (by omega) (by omega)).mp c_16) hzhw_14)
          refine lv_goto (tgt := 33) hx hb dX8_readThing_108 rfl ?_
          exact ih33 (dg, u_15.2.1.1, u_15.2.1.2, u_15.2.2.1, u_15.2.2.2.1, u_15.2.2.2.2.1, u_15.2.2.2.2.2) (by (try dsimp only); exact ⟨by omega, by omega, by omega, fun h => by (try dsimp only at h); have a0 := hw_14.2.1.2.1 h; have a1 := hw_11.2.1 a0.1; have aL := hI.2.2.2.1 a1; exact ⟨by omega, by (try dsimp only); omega, by (try dsimp only); omega, by (try dsimp only); first | exact a0.2.2.2.2 | exact a0.2.2.2 | exact aL.2.2.2 | exact aL.2.2 | exact aL.2⟩, hI.2.2.2.2.1, hI.2.2.2.2.2.1, fun h => absurd h hzhw_14, fun h => cTC_full (by rw [← hcl, show 8 - cx = 0 by omega, show cx = 8 by omega]) (cCE_2 hz9.1 ht2).1 hw_14.2.2.1⟩) (by (try dsimp only); refine hs_mu nc_7 (by omega) (fun h => ?_); have a0 := hw_14.2.1.2.1 h; have a1 := hw_11.2.1 a0.1; omega) _ _ _ hP hD hS (lv_sub hl [1] rfl)
        · have nc_9 : ¬ 8 ≤ cx := fun hq9 => c_9 ((nI_leI (a := 8) (b := cx) (by omega) (by omega)).mpr hq9)
          refine lv_iconst (v := 1) hx hb dX8_readThing_60 hki_1 ?_
          refine lv_goto (tgt := 65) hx hb dX8_readThing_61 rfl ?_
          refine lv_iconst (v := 5) hx hb dX8_readThing_65 hki_5 ?_
          refine hs_cvM (va_runV (As := [.int 1, .int 5]) (rest := []) ⟨hx, hb, hml, hown, hts⟩ (gr_needs l D k _ mo mo_st mo_at mo_isKept mo_pe mo_hm mo_draft mo_dp mo_dh mo_toldLines mo_highest mo_tape mo_tl tpo tfr tso tva tfa twr mo_row mo_orderMany mo_fo mo_lightest mo_heaviest mo_before mo_justSum mo_toldSum mo_allWays mo_lanes mo_sizes mo_cells mo_torn mo_had 1 5 (by omega) (by omega)) (cwV 2 hts gX8_readThing_X8_needs rfl rfl rfl ⟨rfl, hq_X8_needs⟩ ⟨Nat.le_of_ble_eq_true rfl, Nat.le_of_ble_eq_true rfl⟩) (hs_preV hK hN (hs_subP (w := [_]) hP [0] rfl) (hD.sub (ws' := [_]) [0] (hs_upnd rfl) rfl) (ci := 7) (q0 := 0) rfl rfl) rfl rfl hl.1 rfl (lv_room (Nat.le_of_ble_eq_true rfl)) dX8_readThing_66 ⟨Nat.le_of_ble_eq_true rfl, Nat.le_of_ble_eq_true rfl⟩) hP hD hS hA [false, true, true] [_, _] [_] rfl [0] rfl [0] (fun u_19 => [_]) (fun _ => rfl) (hs_upnd rfl) [false, true, true] (fun u_19 => [_, _, _]) (fun _ => rfl) (fun u_19 H locs hw_18 hP hD hS => ?_)
          have hw_18 : u_19.1 ≤ 7 ∧ (u_19.1 = 0 → tfa = 0) ∧ ((1 : Int32) = 0 → ¬ u_19.1 = 0) ∧ u_19 = hNd tfa twr tfr 1 5 := hw_18
          have hqhw_18 : u_19.1 = tfa := by rw [hw_18.2.2.2, hNd, if_neg (fun z9 => absurd z9.1 (by decide))]
          have hzhw_18 : u_19.1 = 0 := hqhw_18.trans nc_7
          refine lv_aload_n hx hb dX8_readThing_69 rfl (lv_at hl 0 rfl) ?_
          refine lv_iconst (v := 0) hx hb dX8_readThing_70 hki_0 ?_
          refine lv_bipush (v := 9) hx hb dX8_readThing_71 hkb_9 ?_
          refine hs_ciM (va_runV (As := [.int 0, .int 9]) (rest := []) ⟨hx, hb, hml, hown, hts⟩ (gr_readNumber l D k _ mo mo_st mo_at mo_isKept mo_pe mo_hm mo_draft mo_dp mo_dh mo_toldLines mo_highest mo_tape mo_tl tpo tfr tso tva u_19.1 u_19.2 mo_row mo_orderMany mo_fo mo_lightest mo_heaviest mo_before mo_justSum mo_toldSum mo_allWays mo_lanes mo_sizes mo_cells mo_torn mo_had tf 0 9 b9.1 b9.2 t9.1 t9.2.1 t9.2.2.1 t9.2.2.2 (by omega) (by omega) (by omega) (by omega) hby (by omega) (by omega) (by have e9 := hw_18.2.2.2; rw [hNd, if_neg (fun z9 => absurd z9.1 (by decide +kernel))] at e9; rw [e9]; exact hsl)) (cwV 2 hts gX8_readThing_X8_readNumber rfl rfl rfl ⟨rfl, hq_X8_readNumber⟩ ⟨Nat.le_of_ble_eq_true rfl, Nat.le_of_ble_eq_true rfl⟩) (hs_preV hK hN (hs_subP (w := [_, _]) hP [0, 1] rfl) (hD.sub (ws' := [_, _]) [0, 1] (hs_upnd rfl) rfl) (ci := 7) (q0 := 0) rfl rfl) rfl rfl hl.1 rfl (lv_room (Nat.le_of_ble_eq_true rfl)) dX8_readThing_73 ⟨Nat.le_of_ble_eq_true rfl, Nat.le_of_ble_eq_true rfl⟩) hP hD hS hA [false, false, true] [_] [_, _] rfl [0, 1] rfl [0, 1] (fun u_22 => [_, _]) (fun _ => rfl) (hs_upnd rfl) [false, false, true] (fun u_22 => [_, _, _]) (fun _ => rfl) (fun r_20 u_22 H locs hw_21 hP hD hS => ?_)
          have hw_21 : r_20 = nI u_22.1 ∧ (u_22.1 ≤ 9 ∧ (u_22.2.2.2.2.1 = 0 → (u_19.1 = 0 ∧ 0 ≤ u_22.1 ∧ tpo ≤ u_22.2.1.2 ∧ u_22.2.1.2 ≤ u_22.2.1.1 ∧ (u_22.2.2.1 = 0 ∨ u_22.2.1.2 < u_22.2.1.1))) ∧ u_22.2.1.1 ≤ mo_tl ∧ u_22.2.1.2 ≤ 160 ∧ u_22.2.2.2.2.1 ≤ 7) ∧ hSyU (cTN tf mo_tl b9.1 b9.2 t9.1 t9.2.1 t9.2.2.1 t9.2.2.2 0 9 (-4)).2.1 (cTN tf mo_tl b9.1 b9.2 t9.1 t9.2.1 t9.2.2.1 t9.2.2.2 0 9 (-4)).2.2 u_22.2 ∧ ((cTN tf mo_tl b9.1 b9.2 t9.1 t9.2.1 t9.2.2.1 t9.2.2.2 0 9 (-4)).2.1.1 = 0 → nI u_22.1 = (cTN tf mo_tl b9.1 b9.2 t9.1 t9.2.1 t9.2.2.1 t9.2.2.2 0 9 (-4)).1) := hw_21
          refine hs_topi (nI (u_22.1)) hw_21.1 ?_
          refine lv_istore_n (lv' := [(1, .int (nI (u_22.1))), (0, .ref mo)]) hx hb dX8_readThing_76 rfl hl (Nat.le_of_ble_eq_true rfl) rfl (fun ls hl => ?_)
          refine lv_aload_n hx hb dX8_readThing_77 rfl (lv_at hl 1 rfl) ?_
          refine va_get (D := D) (ci := 7) (v := .int (nI (u_22.2.2.2.2.1))) (C := RX8) (T := TX8) (N := 32) hx hb hts hiX8 hown hK hP 0 rfl rfl 16 (Nat.le_of_ble_eq_true rfl) fl78 (fun _ h9 => h9) rfl dX8_readThing_78 ?_
          refine lv_if_ne (tgt := 108) hx hb dX8_readThing_81 rfl (fun c_23 => ?_) (fun c_23 => ?_)
          · have nc_23 : ¬ (u_22.2.2.2.2.1) = 0 := fun hq9 => c_23 ((nI_eq (a := (u_22.2.2.2.2.1)) (b := 0) (by omega) (by omega)).mpr hq9)
            refine lv_goto (tgt := 33) hx hb dX8_readThing_108 rfl ?_
            exact ih33 (dg, u_22.2.1.1, u_22.2.1.2, u_22.2.2.1, u_22.2.2.2.1, u_22.2.2.2.2.1, u_22.2.2.2.2.2) (by (try dsimp only); exact ⟨by omega, by omega, by omega, fun h => by (try dsimp only at h); have a0 := hw_21.2.1.2.1 h; have a1 := hw_18.2.1 a0.1; have aL := hI.2.2.2.1 a1; exact ⟨by omega, by (try dsimp only); omega, by (try dsimp only); omega, by (try dsimp only); first | exact a0.2.2.2.2 | exact a0.2.2.2 | exact aL.2.2.2 | exact aL.2.2 | exact aL.2⟩, hI.2.2.2.2.1, hI.2.2.2.2.2.1, fun h => absurd h nc_23, fun h => cTC_ft (n := 8 - (cx + 1)) (c := cx + 1) (by rw [← hcl, show 8 - cx = (8 - (cx + 1)) + 1 by omega, cCl_step2 ⟨hz9.1, Or.inr ht2⟩]) (by omega) hw_21.2.2.1 h⟩) (by (try dsimp only); refine hs_mu nc_7 (by omega) (fun h => ?_); have a0 := hw_21.2.1.2.1 h; have a1 := hw_18.2.1 a0.1; omega) _ _ _ hP hD hS (lv_sub hl [1] rfl)
          · have nc_23 : (u_22.2.2.2.2.1) = 0 := (nI_eq (a := (u_22.2.2.2.2.1)) (b := 0) (by omega) (by omega)).mp c_23
            refine lv_aload_n hx hb dX8_readThing_84 rfl (lv_at hl 1 rfl) ?_
            refine va_get (D := D) (ci := 7) (v := .ref mo_draft) (C := RX8) (T := TX8) (N := 32) hx hb hts hiX8 hown hK hP 0 rfl rfl 5 (Nat.le_of_ble_eq_true rfl) fl20 (fun _ h9 => h9) rfl dX8_readThing_85 ?_
            refine lv_iconst (v := 1) hx hb dX8_readThing_88 hki_1 ?_
            refine lv_aload_n hx hb dX8_readThing_89 rfl (lv_at hl 1 rfl) ?_
            refine va_get (D := D) (ci := 7) (v := .ref mo_draft) (C := RX8) (T := TX8) (N := 32) hx hb hts hiX8 hown hK hP 0 rfl rfl 5 (Nat.le_of_ble_eq_true rfl) fl20 (fun _ h9 => h9) rfl dX8_readThing_90 ?_
            refine lv_iconst (v := 0) hx hb dX8_readThing_93 hki_0 ?_
            refine va_iald hx hb hK hP 2 0 rfl rfl (hs_in (by decide)) dX8_readThing_94 ?_
            refine hs_topi (nI cx) ecx ?_
            refine lv_iadd hx hb dX8_readThing_95 ?_
            refine hs_topi (nI (1 + cx)) (nI_add (1) (cx)) ?_
            refine lv_iload_n hx hb dX8_readThing_96 rfl (lv_at hl 0 rfl) ?_
            refine va_iast hx hb hK hP hD hS 2 0 rfl rfl (vp_in_nI (show (1 + cx) < 44 by omega) (by decide)) dX8_readThing_97 (fun H locs hP hD hS => ?_)
            have hP : va_P D vwCl [_, _, oqI k mo_draft 44 (upd dg ((nI (1 + cx)).toNatClampNeg) (nI (u_22.1)))] H := hP
            have hD : va_D A [_, _, oqI k mo_draft 44 (upd dg ((nI (1 + cx)).toNatClampNeg) (nI (u_22.1)))] := hD
            refine lv_aload_n hx hb dX8_readThing_98 rfl (lv_at hl 1 rfl) ?_
            refine va_get (D := D) (ci := 7) (v := .ref mo_draft) (C := RX8) (T := TX8) (N := 32) hx hb hts hiX8 hown hK hP 0 rfl rfl 5 (Nat.le_of_ble_eq_true rfl) fl20 (fun _ h9 => h9) rfl dX8_readThing_99 ?_
            refine lv_iconst (v := 0) hx hb dX8_readThing_102 hki_0 ?_
            refine lv_dup2_11 hx hb dX8_readThing_103 rfl rfl ?_
            refine va_iald hx hb hK hP 2 0 rfl rfl (hs_in (by decide)) dX8_readThing_104 ?_
            refine hs_topi (nI cx) ((hs_uc (q := 0) (by omega) (by omega)).trans ecx) ?_
            refine lv_iconst (v := 1) hx hb dX8_readThing_105 hki_1 ?_
            refine lv_iadd hx hb dX8_readThing_106 ?_
            refine hs_topi (nI (cx + 1)) (nI_add (cx) (1)) ?_
            refine va_iast hx hb hK hP hD hS 2 0 rfl rfl (hs_in (by decide)) dX8_readThing_107 (fun H locs hP hD hS => ?_)
            have hP : va_P D vwCl [_, _, oqI k mo_draft 44 (upd (upd dg ((nI (1 + cx)).toNatClampNeg) (nI (u_22.1))) 0 (nI (cx + 1)))] H := hP
            have hD : va_D A [_, _, oqI k mo_draft 44 (upd (upd dg ((nI (1 + cx)).toNatClampNeg) (nI (u_22.1))) 0 (nI (cx + 1)))] := hD
            refine lv_goto (tgt := 33) hx hb dX8_readThing_108 rfl ?_
            exact ih33 (upd (upd dg ((nI (1 + cx)).toNatClampNeg) (nI (u_22.1))) 0 (nI (cx + 1)), u_22.2.1.1, u_22.2.1.2, u_22.2.2.1, u_22.2.2.2.1, u_22.2.2.2.2.1, u_22.2.2.2.2.2) (by (try dsimp only); exact ⟨by omega, by omega, by omega, fun h => by (try dsimp only at h); have a0 := hw_21.2.1.2.1 h; have a1 := hw_18.2.1 a0.1; have aL := hI.2.2.2.1 a1; exact ⟨by omega, by (try dsimp only); omega, by (try dsimp only); omega, by (try dsimp only); first | exact a0.2.2.2.2 | exact a0.2.2.2 | exact aL.2.2.2 | exact aL.2.2 | exact aL.2⟩, ⟨cx + 1, (by (try dsimp only); exact hs_uq rfl), by omega, by omega⟩, fun q hq => by rw [hs_un (by omega), hs_uc (by omega) (by omega)]; exact hI.2.2.2.2.2.1 q hq, fun h => ⟨cx + 1, upd w1 cx (cTN tf mo_tl b9.1 b9.2 t9.1 t9.2.1 t9.2.2.1 t9.2.2.2 0 9 (-4)).1, (cTN tf mo_tl b9.1 b9.2 t9.1 t9.2.1 t9.2.2.1 t9.2.2.2 0 9 (-4)).2.1, (cTN tf mo_tl b9.1 b9.2 t9.1 t9.2.1 t9.2.2.1 t9.2.2.2 0 9 (-4)).2.2, (by rw [← hcl, show 8 - cx = (8 - (cx + 1)) + 1 by omega, cCl_step2 ⟨hz9.1, Or.inr ht2⟩]), hw_21.2.2.1, (by (try dsimp only); exact hs_uq rfl), by omega, by omega, fun j hj => if e9 : j = cx then (by subst e9; rw [hs_un (by omega), hs_ue (by omega) rfl, hs_uq rfl]; exact hw_21.2.2.2 (hSyU_0 hw_21.2.2.1 h).1) else (by rw [hs_un (by omega), hs_uc (by omega) (by omega), hs_un e9]; exact hrel j (by omega))⟩, fun h => absurd nc_23 h⟩) (by (try dsimp only); refine hs_mu nc_7 (by omega) (fun h => ?_); have a0 := hw_21.2.1.2.1 h; have a1 := hw_18.2.1 a0.1; omega) _ _ _ hP hD hS (lv_sub hl [1] rfl)
  · (try dsimp only); exact ⟨by omega, by omega, by omega, fun h => by (try dsimp only at h); have a0 := hw_5.2.1.2.1 h; have a1 := hw_2.2.1.2.1 a0.1; exact ⟨by omega, by (try dsimp only); omega, by (try dsimp only); omega, by (try dsimp only); first | exact a0.2.2.2.2 | exact a0.2.2.2 | exact aL.2.2.2 | exact aL.2.2 | exact aL.2⟩, ⟨2, (by (try dsimp only); exact hs_uq rfl), by decide, by decide⟩, (fun q hq => by rw [hs_un (by omega), hs_un (by omega), hs_un (by omega)]), fun h => ⟨2, upd (upd w 0 (cTN tf mo_tl fm pl kd st be va 0 9 (-4)).1) 1 (cTN tf mo_tl (cTN tf mo_tl fm pl kd st be va 0 9 (-4)).2.1.1 (cTN tf mo_tl fm pl kd st be va 0 9 (-4)).2.1.2 (cTN tf mo_tl fm pl kd st be va 0 9 (-4)).2.2.1 (cTN tf mo_tl fm pl kd st be va 0 9 (-4)).2.2.2.1 (cTN tf mo_tl fm pl kd st be va 0 9 (-4)).2.2.2.2.1 (cTN tf mo_tl fm pl kd st be va 0 9 (-4)).2.2.2.2.2 0 9 (-4)).1, (cTN tf mo_tl (cTN tf mo_tl fm pl kd st be va 0 9 (-4)).2.1.1 (cTN tf mo_tl fm pl kd st be va 0 9 (-4)).2.1.2 (cTN tf mo_tl fm pl kd st be va 0 9 (-4)).2.2.1 (cTN tf mo_tl fm pl kd st be va 0 9 (-4)).2.2.2.1 (cTN tf mo_tl fm pl kd st be va 0 9 (-4)).2.2.2.2.1 (cTN tf mo_tl fm pl kd st be va 0 9 (-4)).2.2.2.2.2 0 9 (-4)).2.1, (cTN tf mo_tl (cTN tf mo_tl fm pl kd st be va 0 9 (-4)).2.1.1 (cTN tf mo_tl fm pl kd st be va 0 9 (-4)).2.1.2 (cTN tf mo_tl fm pl kd st be va 0 9 (-4)).2.2.1 (cTN tf mo_tl fm pl kd st be va 0 9 (-4)).2.2.2.1 (cTN tf mo_tl fm pl kd st be va 0 9 (-4)).2.2.2.2.1 (cTN tf mo_tl fm pl kd st be va 0 9 (-4)).2.2.2.2.2 0 9 (-4)).2.2, cTC_begin rfl rfl (hSyU_0 hw_5.2.2.1 h).1, hw_5.2.2.1, (by (try dsimp only); exact hs_uq rfl), by decide, by decide, fun j hj => if e9 : j = 0 then (by subst e9; show _ = (cTN tf mo_tl fm pl kd st be va 0 9 (-4)).1; exact hw_2.2.2.2 (cTN_0 (hSyU_0 hw_5.2.2.1 h).1)) else (by have e8 : j = 1 := (by omega); subst e8; show _ = (cTN tf mo_tl (cTN tf mo_tl fm pl kd st be va 0 9 (-4)).2.1.1 (cTN tf mo_tl fm pl kd st be va 0 9 (-4)).2.1.2 (cTN tf mo_tl fm pl kd st be va 0 9 (-4)).2.2.1 (cTN tf mo_tl fm pl kd st be va 0 9 (-4)).2.2.2.1 (cTN tf mo_tl fm pl kd st be va 0 9 (-4)).2.2.2.2.1 (cTN tf mo_tl fm pl kd st be va 0 9 (-4)).2.2.2.2.2 0 9 (-4)).1; exact hw_5.2.2.2 (hSyU_0 hw_5.2.2.1 h).1)⟩, fun h => cTC_start rfl rfl hw_5.2.2.1 h⟩
