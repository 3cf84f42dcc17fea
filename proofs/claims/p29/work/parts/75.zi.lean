theorem cTN_ex {f : Nat → Int32} {len : Nat} {fm pl kd : Int32} {st be : Nat} {va : Int32} {lo hi : Nat} {un : Int32} (hl : lo ≤ hi) (hh : hi < 2 ^ 30) : ∃ j : Nat, lo ≤ j ∧ j ≤ hi ∧ (cTN f len fm pl kd st be va lo hi un).1 = nI j := by
  by_cases e : (cLk fm pl kd st va lo hi un).1 = 0
  · rw [cTN_yes e]
    have h2 : hsin va (nI lo) (nI hi) = true := by
      cases c : hsin va (nI lo) (nI hi) with
      | true => rfl
      | false =>
        unfold cLk at e
        rw [if_neg (fun z => absurd z.1 (by rw [c]; decide))] at e
        exact absurd e (cBl_ne (by decide))
    obtain ⟨j, hj1, hj2, ej⟩ := hs_rng (by omega) hl h2
    exact ⟨j, hj1, hj2, ej⟩
  · rw [cTN_no e]
    exact ⟨lo, Nat.le_refl _, hl, rfl⟩
theorem cCl_c {f : Nat → Int32} {len : Nat} : ∀ (n c : Nat) (w : Nat → Int32) (b : Int32 × Int32) (t : Int32 × Nat × Nat × Int32), (cCl f len n c w b t).1 ≤ c + n := by
  intro n
  induction n with
  | zero => intro c w b t; exact Nat.le_refl _
  | succ n ih =>
    intro c w b t
    rw [cCl]
    by_cases e : b.1 = 0 ∧ (c < 2 ∨ t.1 = 2)
    · rw [if_pos e]
      have h9 := ih (c + 1) (upd w c (cTN f len b.1 b.2 t.1 t.2.1 t.2.2.1 t.2.2.2 0 9 (-4)).1) (cTN f len b.1 b.2 t.1 t.2.1 t.2.2.1 t.2.2.2 0 9 (-4)).2.1 (cTN f len b.1 b.2 t.1 t.2.1 t.2.2.1 t.2.2.2 0 9 (-4)).2.2
      omega
    · rw [if_neg e]
      exact Nat.le_add_right _ _
theorem cTL_thN {f : Nat → Int32} {len : Nat} {ln : Int32} {x : (Int32 × Int32 × Int32) × (Int32 × Nat × Nat × Int32) × (Nat → Nat) × (Nat → Int32) × (Nat → Nat → Int32)} (hN : thN x.2.2.1) (hl : ln = -4 ∨ ln = 0 ∨ ln = 1 ∨ ln = 2 ∨ ln = 3 ∨ ln = 4 ∨ ln = 5 ∨ ln = 6 ∨ ln = 7 ∨ ln = 8) : thN (cTL f len ln x).2.2.1 := by
  unfold cTL
  by_cases e : (cCN x.1.1 x.1.2.1 x.1.2.2 x.2.1.1 x.2.1.2.1 (x.2.2.1 1) (x.2.2.1 3) ln).1 = 0
  · rw [if_pos e]
    obtain ⟨I0, I1, ⟨I2, I2b⟩, I3, I4⟩ := hN
    have hp4 : ln ≤ 3 → x.2.2.1 1 < 4 := fun h3 => cCN_4 h3 e
    have hp8 : ln = 8 → x.2.2.1 3 < 8 := fun h8 => by rw [h8] at e; exact cCN_8 e
    generalize cCN x.1.1 x.1.2.1 x.1.2.2 x.2.1.1 x.2.1.2.1 (x.2.2.1 1) (x.2.2.1 3) ln = ck
    generalize htok f len x.2.1.2.2.1 = t
    unfold cTLn
    by_cases h4 : ln = 4
    · rw [if_pos h4, cMk_d]
      have h9 := cCl_c (f := f) (len := len) 8 0 (x.2.2.2.2 0) (ck.1, ck.2.1) (t.1, t.2.1, t.2.2.1, t.2.2.2)
      exact ⟨by rw [Nat.zero_add] at h9; exact h9, I1, ⟨I2, I2b⟩, I3, I4⟩
    · rw [if_neg h4]
      by_cases h5 : ln = 5
      · rw [if_pos h5, cMk_d]
        exact ⟨I0, I1, ⟨I2, I2b⟩, I3, I4⟩
      · rw [if_neg h5]
        by_cases h6 : ln = 6
        · rw [if_pos h6, cMk_d]
          exact ⟨I0, I1, ⟨I2, I2b⟩, I3, I4⟩
        · rw [if_neg h6]
          by_cases h7 : ln = 7
          · rw [if_pos h7, cMk_d]
            obtain ⟨j, hj1, hj2, ej⟩ := cTN_ex (f := f) (len := len) (fm := ck.1) (pl := ck.2.1) (kd := t.1) (st := t.2.1) (be := t.2.2.1) (va := t.2.2.2) (lo := 2) (hi := 5) (un := -4) (by decide) (by decide)
            have ec : (cTN f len ck.1 ck.2.1 t.1 t.2.1 t.2.2.1 t.2.2.2 2 5 (-4)).1.toNatClampNeg = j := by rw [ej, nI_clamp (by omega)]
            refine ⟨I0, I1, ⟨?_, ?_⟩, I3, I4⟩
            · show 2 ≤ (cTN f len ck.1 ck.2.1 t.1 t.2.1 t.2.2.1 t.2.2.2 2 5 (-4)).1.toNatClampNeg
              rw [ec]; exact hj1
            · show (cTN f len ck.1 ck.2.1 t.1 t.2.1 t.2.2.1 t.2.2.2 2 5 (-4)).1.toNatClampNeg ≤ 5
              rw [ec]; exact hj2
          · rw [if_neg h7]
            by_cases h8 : ln = 8
            · rw [if_pos h8, cMk_d]
              exact ⟨I0, I1, ⟨I2, I2b⟩, hp8 h8, I4⟩
            · rw [if_neg h8, cMk_d]
              have h3 : ln ≤ 3 := by
                rcases hl with h9 | h9 | h9 | h9 | h9 | h9 | h9 | h9 | h9 | h9
                · rw [h9]; decide
                · rw [h9]; decide
                · rw [h9]; decide
                · rw [h9]; decide
                · rw [h9]; decide
                · exact absurd h9 h4
                · exact absurd h9 h5
                · exact absurd h9 h6
                · exact absurd h9 h7
                · exact absurd h9 h8
              exact ⟨I0, hp4 h3, ⟨I2, I2b⟩, I3, I4⟩
  · rw [if_neg e]
    exact hN
/-- what the reference's loop over the lines knows of the class -/
def txI (f : Nat → Int32) (len : Nat) (F0 : Nat → Nat → Int32) (li : Nat) (u : (Nat × Nat) × Int32 × Int32 × Nat × Int32) (dg : Nat → Int32) (dp dh : Nat) (hg tl : Int32) : Prop := ∃ x : (Int32 × Int32 × Int32) × (Int32 × Nat × Nat × Int32) × (Nat → Nat) × (Nat → Int32) × (Nat → Nat → Int32), cTA f len (160 - li) li x = cTB f len F0 ∧ hSyU (x.1.1, x.1.2.1) x.2.1 u ∧ (x.1.1 = 0 → ∃ p : Nat, li ≤ p ∧ x.2.1 = htok f len p) ∧ (thN x.2.2.1 ∧ thB x.2.2.1 x.2.2.2.1 x.2.2.2.2) ∧ (u.2.2.2.1 = 0 → (rDr x.2.2.1 x.2.2.2.1 x.2.2.2.2 dg dp dh hg ∧ ∃ tb : Nat, tb < 256 ∧ x.1.2.2 = nI tb ∧ tl = nI (2 * tb)))
theorem txI_step {f : Nat → Int32} {len : Nat} {F0 : Nat → Nat → Int32} {li : Nat} {u v : (Nat × Nat) × Int32 × Int32 × Nat × Int32} {d2 : Nat → Int32} {dp2 dh2 : Nat} {hg2 tl2 : Int32} {x : (Int32 × Int32 × Int32) × (Int32 × Nat × Nat × Int32) × (Nat → Nat) × (Nat → Int32) × (Nat → Nat → Int32)} (hl : len ≤ 160) (hA : cTA f len (160 - li) li x = cTB f len F0) (hs : hSyU (x.1.1, x.1.2.1) x.2.1 u) (hp : x.1.1 = 0 → ∃ p : Nat, li ≤ p ∧ x.2.1 = htok f len p) (hN : thN x.2.2.1) (hB : thB x.2.2.1 x.2.2.2.1 x.2.2.2.2) (h0 : u.2.2.2.1 = 0) (hso : ¬ u.2.1 = 0)
    (hs2 : hSyU ((cTL f len (cLn f x.2.1.1 x.2.1.2.1 x.2.1.2.2.1) x).1.1, (cTL f len (cLn f x.2.1.1 x.2.1.2.1 x.2.1.2.2.1) x).1.2.1) (cTL f len (cLn f x.2.1.1 x.2.1.2.1 x.2.1.2.2.1) x).2.1 v) (hr : v.2.2.2.1 = 0 → (rDr (cTL f len (cLn f x.2.1.1 x.2.1.2.1 x.2.1.2.2.1) x).2.2.1 (cTL f len (cLn f x.2.1.1 x.2.1.2.1 x.2.1.2.2.1) x).2.2.2.1 (cTL f len (cLn f x.2.1.1 x.2.1.2.1 x.2.1.2.2.1) x).2.2.2.2 d2 dp2 dh2 hg2 ∧ ∃ tb : Nat, tb < 256 ∧ (cTL f len (cLn f x.2.1.1 x.2.1.2.1 x.2.1.2.2.1) x).1.2.2 = nI tb ∧ tl2 = nI (2 * tb))) : li + 1 ≤ 160 ∧ txI f len F0 (li + 1) v d2 dp2 dh2 hg2 tl2 := by
  have hz := hSyU_0 hs h0
  have hk : ¬ x.2.1.1 = 0 := fun z => hso (hz.2.2.2.2.1.trans z)
  obtain ⟨p, hlp, ep⟩ := hp hz.1
  have hst := htok_lt (f := f) (len := len) (p := p) (by rw [← ep]; exact hk)
  have hsp := (htok_st (f := f) (len := len) (p := p)).1
  rw [← ep] at hst hsp
  have hli : li < 160 := by omega
  refine ⟨hli, cTL f len (cLn f x.2.1.1 x.2.1.2.1 x.2.1.2.2.1) x, ?_, hs2, fun h9 => ?_, ⟨cTL_thN hN (cLn_10 _ _ _ _), cTL_thB hN hB (cLn_10 _ _ _ _)⟩, hr⟩
  · rw [← hA, show 160 - li = (160 - (li + 1)) + 1 by omega, cTA_step ⟨hz.1, hk⟩]
  · obtain ⟨q, hq, eq⟩ := cTL_tok h9
    exact ⟨q, by omega, eq⟩
/-- the ends of the reference's text -/
theorem txE_ft {f : Nat → Int32} {len : Nat} {F0 : Nat → Nat → Int32} {li : Nat} {u : (Nat × Nat) × Int32 × Int32 × Nat × Int32} {dg : Nat → Int32} {dp dh : Nat} {hg tl : Int32} (hl : len ≤ 160) (h : txI f len F0 li u dg dp dh hg tl) (hf : ¬ u.2.2.2.1 = 0) : ¬ (cTX f len F0).1 = 0 ∧ u.2.2.2.2 = (cTX f len F0).2 := by
  obtain ⟨x, hA, hs, hp, -, -⟩ := h
  have h9 := cTA_exit hl hs hp hf
  rw [hA] at h9
  rw [cTX, if_neg h9.1]
  exact h9
theorem txE_end {f : Nat → Int32} {len : Nat} {F0 : Nat → Nat → Int32} {li : Nat} {u : (Nat × Nat) × Int32 × Int32 × Nat × Int32} {dg : Nat → Int32} {dp dh : Nat} {hg tl : Int32} (h : txI f len F0 li u dg dp dh hg tl) (h0 : u.2.2.2.1 = 0) (hso : u.2.1 = 0) : cTX f len F0 = cCC (cTB f len F0).1.1.2.1 u.1.2 (cTB f len F0).1.2.2.1 (cTB f len F0).1.2.2.2.2 ∧ (cTB f len F0).2 = li ∧ thN (cTB f len F0).1.2.2.1 ∧ thB (cTB f len F0).1.2.2.1 (cTB f len F0).1.2.2.2.1 (cTB f len F0).1.2.2.2.2 ∧ rDr (cTB f len F0).1.2.2.1 (cTB f len F0).1.2.2.2.1 (cTB f len F0).1.2.2.2.2 dg dp dh hg := by
  obtain ⟨x, hA, hs, hp, hN, hr⟩ := h
  have hz := hSyU_0 hs h0
  have hk : x.2.1.1 = 0 := hz.2.2.2.2.1.symm.trans hso
  have e : cTB f len F0 = (x, li) := hA.symm.trans (cTA_stop (Or.inr (fun z => z.2 hk)))
  have e2 : cTX f len F0 = cCC x.1.2.1 x.2.1.2.1 x.2.2.1 x.2.2.2.2 := by rw [cTX, e, if_pos hz.1]
  rw [e]
  exact ⟨by rw [e2, hz.2.2.1], rfl, hN.1, hN.2, (hr h0).1⟩
theorem txE_6 {f : Nat → Int32} {len : Nat} {F0 : Nat → Nat → Int32} {li : Nat} {u : (Nat × Nat) × Int32 × Int32 × Nat × Int32} {dg : Nat → Int32} {dp dh : Nat} {hg tl : Int32} (h : txI f len F0 li u dg dp dh hg tl) (h0 : u.2.2.2.1 = 0) (hso : u.2.1 = 0) (hh : dh < 2 ^ 30) (hb : nI dh ≤ hg) : cTX f len F0 = (6, nI u.1.2) := by
  obtain ⟨e, -, -, hB, hr⟩ := txE_end h h0 hso
  have hbad : badP ((cTB f len F0).1.2.2.1 2) (hLt (cTB f len F0).1.2.2.2.2) (hHv (cTB f len F0).1.2.2.2.2) ((cTB f len F0).1.2.2.1 3) = true := by
    cases c : badP ((cTB f len F0).1.2.2.1 2) (hLt (cTB f len F0).1.2.2.2.2) (hHv (cTB f len F0).1.2.2.2.2) ((cTB f len F0).1.2.2.1 3) with
    | true => rfl
    | false => exact absurd ((rDr_bad hr hB hh).mp c) (Int32.not_lt.mpr hb)
  rw [e, cCC, if_pos hbad]
theorem txE_ok {f : Nat → Int32} {len : Nat} {F0 : Nat → Nat → Int32} {li : Nat} {u : (Nat × Nat) × Int32 × Int32 × Nat × Int32} {dg : Nat → Int32} {dp dh : Nat} {hg tl : Int32} (h : txI f len F0 li u dg dp dh hg tl) (h0 : u.2.2.2.1 = 0) (hso : u.2.1 = 0) (hh : dh < 2 ^ 30) (hb : ¬ nI dh ≤ hg) : (cTB f len F0).1.2.2.1 2 = dh ∧ (∀ k, k < (cTB f len F0).1.2.2.1 3 → (hLt (cTB f len F0).1.2.2.2.2 k < dh ∧ hHv (cTB f len F0).1.2.2.2.2 k < dh)) ∧ cTX f len F0 = if Wm dh (hAh (hLt (cTB f len F0).1.2.2.2.2) (hHv (cTB f len F0).1.2.2.2.2) ((cTB f len F0).1.2.2.1 3)) dh (2 ^ dh - 1) = 0 then (7, nI u.1.2) else (0, (cTB f len F0).1.1.2.1) := by
  obtain ⟨e, -, -, hB, hr⟩ := txE_end h h0 hso
  have hbad := (rDr_bad hr hB hh).mpr (Int32.not_le.mp hb)
  have e2 : (cTB f len F0).1.2.2.1 2 = dh := hr.2.2.2.1.symm
  refine ⟨e2, fun k hk => ?_, ?_⟩
  · have h9 := (badP_iff _).mp hbad k hk
    rw [e2] at h9
    exact h9
  · rw [e, cCC, if_neg (by rw [hbad]; decide), e2]
theorem rDr_same {N : Nat → Nat} {J : Nat → Int32} {F : Nat → Nat → Int32} {df dg : Nat → Int32} {dp dh : Nat} {hg : Int32} (h : rDr N J F df dp dh hg) (hN : thN N) (e : ∀ q, q < 44 → dg q = df q) : rDr N J F dg dp dh hg := by
  obtain ⟨⟨a1, a2⟩, ⟨b1, b2⟩, ⟨c1, c2, c3⟩, d1, ⟨e1, e2⟩, ⟨f1, f2⟩, g1⟩ := h
  obtain ⟨I0, I1, -, I3, -⟩ := hN
  exact ⟨⟨(e 0 (by decide)).trans a1, fun j hj => (e _ (by omega)).trans (a2 j hj)⟩, ⟨b1, fun j hj => (e _ (by omega)).trans (b2 j hj)⟩, ⟨(e _ (by decide)).trans c1, (e _ (by decide)).trans c2, (e _ (by decide)).trans c3⟩, d1, ⟨(e _ (by decide)).trans e1, fun j hj => (e _ (by omega)).trans (e2 j hj)⟩, ⟨(e _ (by decide)).trans f1, f2⟩, g1⟩
theorem cT0_thN {f : Nat → Int32} {len : Nat} {F : Nat → Nat → Int32} : thN (cT0 f len F).2.2.1 := ⟨show 2 ≤ 8 from by decide, show 0 ≤ 4 from by decide, ⟨show 2 ≤ 2 from by decide, show 2 ≤ 5 from by decide⟩, show 0 ≤ 8 from by decide, show 0 ≤ 6 from by decide⟩

set_option maxHeartbeats 4000000 in
set_option maxRecDepth 100000 in
theorem gr_firstDraft (l : Launch) (D : va_G) (k : Nat → ClassId) (sz : Nat) (mo : Nat) (mo_st : Nat) (mo_at : Nat) (mo_isKept : Nat) (mo_pe : Nat) (mo_hm : Nat) (mo_draft : Nat) (mo_dp : Nat) (mo_dh : Nat) (mo_toldLines : Int32) (mo_highest : Int32) (mo_tape : Nat) (mo_tl : Nat) (mo_ps : Nat) (mo_fr : Nat) (mo_sort : Int32) (mo_value : Int32) (mo_ft : Nat) (mo_wrongAt : Int32) (mo_row : Nat) (mo_orderMany : Int32) (mo_fo : Nat) (mo_lightest : Int32) (mo_heaviest : Int32) (mo_before : Nat) (mo_justSum : Int64) (mo_toldSum : Int64) (mo_allWays : Int64) (mo_lanes : Nat) (mo_sizes : Nat) (mo_cells : Nat) (mo_torn : Int32) (mo_had : Nat) (df : Nat → Int32)  : MV l yX8_firstDraft wsX8_firstDraft ({ frames := 0, cells := 0, slots := 0, locals := 0 }) D k [.ref mo] [oq7 mo mo_st mo_at mo_isKept (nI mo_pe) (nI mo_hm) mo_draft (nI mo_dp) (nI mo_dh) mo_toldLines mo_highest mo_tape (nI mo_tl) (nI mo_ps) (nI mo_fr) mo_sort mo_value (nI mo_ft) mo_wrongAt mo_row mo_orderMany (nI mo_fo) mo_lightest mo_heaviest mo_before mo_justSum mo_toldSum mo_allWays mo_lanes mo_sizes mo_cells mo_torn mo_had, oqI k mo_draft 44 (df)] sz (fun (u : Nat → Int32) => drS u ∧ u 0 = 2 ∧ u 1 = 1 ∧ u 2 = 1 ∧ ∀ j, 3 ≤ j → j < 44 → u j = 0) (fun (u : Nat → Int32) => [oq7 mo mo_st mo_at mo_isKept (nI mo_pe) (nI mo_hm) mo_draft 0 2 0 (-4) mo_tape (nI mo_tl) (nI mo_ps) (nI mo_fr) mo_sort mo_value (nI mo_ft) mo_wrongAt mo_row mo_orderMany (nI mo_fo) mo_lightest mo_heaviest mo_before mo_justSum mo_toldSum mo_allWays mo_lanes mo_sizes mo_cells mo_torn mo_had, oqI k mo_draft 44 (u)]) := by
  refine Met.ofW (cc := cX8_firstDraft) (maxL := 2) (ret := none) hpn_X8 rfl ?_
  intro p e s m args below meth c s₁ B hml hv
  obtain ⟨rfl, hsz, hP, hK, hD0, hN⟩ := hv
  have hx := B.exec
  have hb := B.bytes
  have hr := B.returns
  have hlocks := B.notSynchronized
  have hts := atoms_spec (ws := wsX8_firstDraft) B.pre
  have hown := findClass_of_methodNamed B.named
  have hown : s.vm.findClass RX8 = some m.cls := hown
  have hiX8 : ∀ w ∈ u_ws RX8 TX8 32, w ∈ wsX8_firstDraft := fun w9 hw9 => List.mem_cons_of_mem _ (igX8 w9 hw9)
  have fl20 := hts (.fieldLink RX8 20 "HalfScalesModel" "draft" "[I") (List.mem_cons_of_mem _ (hs_inG 4 85 rfl rfl))
  have fl50 := hts (.fieldLink RX8 50 "HalfScalesModel" "dPeople" "I") (List.mem_cons_of_mem _ (hs_inG 4 86 rfl rfl))
  have fl54 := hts (.fieldLink RX8 54 "HalfScalesModel" "dHalves" "I") (List.mem_cons_of_mem _ (hs_inG 4 87 rfl rfl))
  have fl57 := hts (.fieldLink RX8 57 "HalfScalesModel" "toldLines" "I") (List.mem_cons_of_mem _ (hs_inG 4 88 rfl rfl))
  have fl60 := hts (.fieldLink RX8 60 "HalfScalesModel" "highest" "I") (List.mem_cons_of_mem _ (hs_inG 4 89 rfl rfl))
  subst hsz
  have hD := hD0.self (sz := s.heap.size)
  generalize hAe : va_A [oq7 mo mo_st mo_at mo_isKept (nI mo_pe) (nI mo_hm) mo_draft (nI mo_dp) (nI mo_dh) mo_toldLines mo_highest mo_tape (nI mo_tl) (nI mo_ps) (nI mo_fr) mo_sort mo_value (nI mo_ft) mo_wrongAt mo_row mo_orderMany (nI mo_fo) mo_lightest mo_heaviest mo_before mo_justSum mo_toldSum mo_allWays mo_lanes mo_sizes mo_cells mo_torn mo_had, oqI k mo_draft 44 (df)] s.heap.size = A at hD ⊢
  have hA : ∀ q : Nat, s.heap.size ≤ q → A q := fun q h => by rw [← hAe]; exact Or.inr h
  have hS : va_S A s.heap s.heap [] := va_S.rf
  have hl := lv_entry ([.ref mo]) (n := 2) (Nat.le_of_ble_eq_true rfl)
  rw [lg_entry_eq]
  generalize (lg_sl ([.ref mo]) ++ List.replicate (2 - (lg_sl ([.ref mo])).length) Slot.unset).toArray = ls at hl ⊢
  have hl : lv_has ls 2 [(0, .ref mo)] := hl
  have hP : va_P D vwCl [oq7 mo mo_st mo_at mo_isKept (nI mo_pe) (nI mo_hm) mo_draft (nI mo_dp) (nI mo_dh) mo_toldLines mo_highest mo_tape (nI mo_tl) (nI mo_ps) (nI mo_fr) mo_sort mo_value (nI mo_ft) mo_wrongAt mo_row mo_orderMany (nI mo_fo) mo_lightest mo_heaviest mo_before mo_justSum mo_toldSum mo_allWays mo_lanes mo_sizes mo_cells mo_torn mo_had, oqI k mo_draft 44 (df)] s.heap := hP
  refine lv_iconst (v := 0) hx hb dX8_firstDraft_0 hki_0 ?_
  refine lv_istore_n (lv' := [(1, .int 0), (0, .ref mo)]) hx hb dX8_firstDraft_1 rfl hl (Nat.le_of_ble_eq_true rfl) rfl (fun ls hl => ?_)
  refine hs_while (σ := Nat × (Nat → Int32)) (fun x => x.1 ≤ 44 ∧ ∀ j, j < x.1 → x.2 j = 0) (fun x => 44 - x.1) (fun x => [oq7 mo mo_st mo_at mo_isKept (nI mo_pe) (nI mo_hm) mo_draft (nI mo_dp) (nI mo_dh) mo_toldLines mo_highest mo_tape (nI mo_tl) (nI mo_ps) (nI mo_fr) mo_sort mo_value (nI mo_ft) mo_wrongAt mo_row mo_orderMany (nI mo_fo) mo_lightest mo_heaviest mo_before mo_justSum mo_toldSum mo_allWays mo_lanes mo_sizes mo_cells mo_torn mo_had, oqI k mo_draft 44 ((x.2))]) (fun x => [(1, .int (nI (x.1))), (0, .ref mo)]) ?_ (0, df) ?_ hP hD hS hl
  · intro x hI ih2 H locs ls hP hD hS hl
    obtain ⟨i, g⟩ := x
    try dsimp only at hI
    have hP : va_P D vwCl [oq7 mo mo_st mo_at mo_isKept (nI mo_pe) (nI mo_hm) mo_draft (nI mo_dp) (nI mo_dh) mo_toldLines mo_highest mo_tape (nI mo_tl) (nI mo_ps) (nI mo_fr) mo_sort mo_value (nI mo_ft) mo_wrongAt mo_row mo_orderMany (nI mo_fo) mo_lightest mo_heaviest mo_before mo_justSum mo_toldSum mo_allWays mo_lanes mo_sizes mo_cells mo_torn mo_had, oqI k mo_draft 44 (g)] H := hP
    have hD : va_D A [oq7 mo mo_st mo_at mo_isKept (nI mo_pe) (nI mo_hm) mo_draft (nI mo_dp) (nI mo_dh) mo_toldLines mo_highest mo_tape (nI mo_tl) (nI mo_ps) (nI mo_fr) mo_sort mo_value (nI mo_ft) mo_wrongAt mo_row mo_orderMany (nI mo_fo) mo_lightest mo_heaviest mo_before mo_justSum mo_toldSum mo_allWays mo_lanes mo_sizes mo_cells mo_torn mo_had, oqI k mo_draft 44 (g)] := hD
    have hl : lv_has ls 2 [(1, .int (nI i)), (0, .ref mo)] := hl
    refine lv_iload_n hx hb dX8_firstDraft_2 rfl (lv_at hl 0 rfl) ?_
    refine lv_bipush (v := 44) hx hb dX8_firstDraft_3 hkb_44 ?_
    refine lv_icmp_ge (tgt := 21) hx hb dX8_firstDraft_5 rfl (fun c_1 => ?_) (fun c_1 => ?_)
    · have nc_1 : 44 ≤ i := (nI_leI (a := 44) (b := i) (by omega) (by omega)).mp c_1
      refine lv_aload_n hx hb dX8_firstDraft_21 rfl (lv_at hl 1 rfl) ?_
      refine va_get (D := D) (ci := 7) (v := .ref mo_draft) (C := RX8) (T := TX8) (N := 32) hx hb hts hiX8 hown hK hP 0 rfl rfl 5 (Nat.le_of_ble_eq_true rfl) fl20 (fun _ h9 => h9) rfl dX8_firstDraft_22 ?_
      refine lv_iconst (v := 0) hx hb dX8_firstDraft_25 hki_0 ?_
      refine lv_iconst (v := 2) hx hb dX8_firstDraft_26 hki_2 ?_
      refine va_iast hx hb hK hP hD hS 1 0 rfl rfl (hs_in (by decide)) dX8_firstDraft_27 (fun H locs hP hD hS => ?_)
      have hP : va_P D vwCl [_, oqI k mo_draft 44 (upd g 0 2)] H := hP
      have hD : va_D A [_, oqI k mo_draft 44 (upd g 0 2)] := hD
      refine lv_aload_n hx hb dX8_firstDraft_28 rfl (lv_at hl 1 rfl) ?_
      refine va_get (D := D) (ci := 7) (v := .ref mo_draft) (C := RX8) (T := TX8) (N := 32) hx hb hts hiX8 hown hK hP 0 rfl rfl 5 (Nat.le_of_ble_eq_true rfl) fl20 (fun _ h9 => h9) rfl dX8_firstDraft_29 ?_
      refine lv_iconst (v := 1) hx hb dX8_firstDraft_32 hki_1 ?_
      refine lv_iconst (v := 1) hx hb dX8_firstDraft_33 hki_1 ?_
      refine va_iast hx hb hK hP hD hS 1 0 rfl rfl (hs_in (by decide)) dX8_firstDraft_34 (fun H locs hP hD hS => ?_)
      have hP : va_P D vwCl [_, oqI k mo_draft 44 (upd (upd g 0 2) 1 1)] H := hP
      have hD : va_D A [_, oqI k mo_draft 44 (upd (upd g 0 2) 1 1)] := hD
      refine lv_aload_n hx hb dX8_firstDraft_35 rfl (lv_at hl 1 rfl) ?_
      refine va_get (D := D) (ci := 7) (v := .ref mo_draft) (C := RX8) (T := TX8) (N := 32) hx hb hts hiX8 hown hK hP 0 rfl rfl 5 (Nat.le_of_ble_eq_true rfl) fl20 (fun _ h9 => h9) rfl dX8_firstDraft_36 ?_
      refine lv_iconst (v := 2) hx hb dX8_firstDraft_39 hki_2 ?_
      refine lv_iconst (v := 1) hx hb dX8_firstDraft_40 hki_1 ?_
      refine va_iast hx hb hK hP hD hS 1 0 rfl rfl (hs_in (by decide)) dX8_firstDraft_41 (fun H locs hP hD hS => ?_)
      have hP : va_P D vwCl [_, oqI k mo_draft 44 (upd (upd (upd g 0 2) 1 1) 2 1)] H := hP
      have hD : va_D A [_, oqI k mo_draft 44 (upd (upd (upd g 0 2) 1 1) 2 1)] := hD
      refine lv_aload_n hx hb dX8_firstDraft_42 rfl (lv_at hl 1 rfl) ?_
      refine lv_iconst (v := 0) hx hb dX8_firstDraft_43 hki_0 ?_
      refine va_put (D := D) (ci := 7) (v := .int 0) (ty := .int) (C := RX8) (T := TX8) (N := 32) hx hb hts hiX8 tyX8 tyX8_ok nmX8 hown hK hP hD hS 0 rfl rfl 6 (Nat.le_of_ble_eq_true rfl) fl50 (fun _ h9 => h9) rfl (by decide +kernel) rfl rfl (Nat.le_of_ble_eq_true rfl) dX8_firstDraft_44 (fun H locs hP hD hS => ?_)
      have hP : va_P D vwCl [oq7 mo mo_st mo_at mo_isKept (nI mo_pe) (nI mo_hm) mo_draft 0 (nI mo_dh) mo_toldLines mo_highest mo_tape (nI mo_tl) (nI mo_ps) (nI mo_fr) mo_sort mo_value (nI mo_ft) mo_wrongAt mo_row mo_orderMany (nI mo_fo) mo_lightest mo_heaviest mo_before mo_justSum mo_toldSum mo_allWays mo_lanes mo_sizes mo_cells mo_torn mo_had, _] H := hP
      have hD : va_D A [oq7 mo mo_st mo_at mo_isKept (nI mo_pe) (nI mo_hm) mo_draft 0 (nI mo_dh) mo_toldLines mo_highest mo_tape (nI mo_tl) (nI mo_ps) (nI mo_fr) mo_sort mo_value (nI mo_ft) mo_wrongAt mo_row mo_orderMany (nI mo_fo) mo_lightest mo_heaviest mo_before mo_justSum mo_toldSum mo_allWays mo_lanes mo_sizes mo_cells mo_torn mo_had, _] := hD
      refine lv_aload_n hx hb dX8_firstDraft_47 rfl (lv_at hl 1 rfl) ?_
      refine lv_iconst (v := 2) hx hb dX8_firstDraft_48 hki_2 ?_
      refine va_put (D := D) (ci := 7) (v := .int 2) (ty := .int) (C := RX8) (T := TX8) (N := 32) hx hb hts hiX8 tyX8 tyX8_ok nmX8 hown hK hP hD hS 0 rfl rfl 7 (Nat.le_of_ble_eq_true rfl) fl54 (fun _ h9 => h9) rfl (by decide +kernel) rfl rfl (Nat.le_of_ble_eq_true rfl) dX8_firstDraft_49 (fun H locs hP hD hS => ?_)
      have hP : va_P D vwCl [oq7 mo mo_st mo_at mo_isKept (nI mo_pe) (nI mo_hm) mo_draft 0 2 mo_toldLines mo_highest mo_tape (nI mo_tl) (nI mo_ps) (nI mo_fr) mo_sort mo_value (nI mo_ft) mo_wrongAt mo_row mo_orderMany (nI mo_fo) mo_lightest mo_heaviest mo_before mo_justSum mo_toldSum mo_allWays mo_lanes mo_sizes mo_cells mo_torn mo_had, _] H := hP
      have hD : va_D A [oq7 mo mo_st mo_at mo_isKept (nI mo_pe) (nI mo_hm) mo_draft 0 2 mo_toldLines mo_highest mo_tape (nI mo_tl) (nI mo_ps) (nI mo_fr) mo_sort mo_value (nI mo_ft) mo_wrongAt mo_row mo_orderMany (nI mo_fo) mo_lightest mo_heaviest mo_before mo_justSum mo_toldSum mo_allWays mo_lanes mo_sizes mo_cells mo_torn mo_had, _] := hD
      refine lv_aload_n hx hb dX8_firstDraft_52 rfl (lv_at hl 1 rfl) ?_
      refine lv_iconst (v := 0) hx hb dX8_firstDraft_53 hki_0 ?_
      refine va_put (D := D) (ci := 7) (v := .int 0) (ty := .int) (C := RX8) (T := TX8) (N := 32) hx hb hts hiX8 tyX8 tyX8_ok nmX8 hown hK hP hD hS 0 rfl rfl 8 (Nat.le_of_ble_eq_true rfl) fl57 (fun _ h9 => h9) rfl (by decide +kernel) rfl rfl (Nat.le_of_ble_eq_true rfl) dX8_firstDraft_54 (fun H locs hP hD hS => ?_)
      have hP : va_P D vwCl [oq7 mo mo_st mo_at mo_isKept (nI mo_pe) (nI mo_hm) mo_draft 0 2 0 mo_highest mo_tape (nI mo_tl) (nI mo_ps) (nI mo_fr) mo_sort mo_value (nI mo_ft) mo_wrongAt mo_row mo_orderMany (nI mo_fo) mo_lightest mo_heaviest mo_before mo_justSum mo_toldSum mo_allWays mo_lanes mo_sizes mo_cells mo_torn mo_had, _] H := hP
      have hD : va_D A [oq7 mo mo_st mo_at mo_isKept (nI mo_pe) (nI mo_hm) mo_draft 0 2 0 mo_highest mo_tape (nI mo_tl) (nI mo_ps) (nI mo_fr) mo_sort mo_value (nI mo_ft) mo_wrongAt mo_row mo_orderMany (nI mo_fo) mo_lightest mo_heaviest mo_before mo_justSum mo_toldSum mo_allWays mo_lanes mo_sizes mo_cells mo_torn mo_had, _] := hD
      refine lv_aload_n hx hb dX8_firstDraft_57 rfl (lv_at hl 1 rfl) ?_
      refine lv_bipush (v := (-4)) hx hb dX8_firstDraft_58 hkb_m4 ?_
      refine va_put (D := D) (ci := 7) (v := .int (-4)) (ty := .int) (C := RX8) (T := TX8) (N := 32) hx hb hts hiX8 tyX8 tyX8_ok nmX8 hown hK hP hD hS 0 rfl rfl 9 (Nat.le_of_ble_eq_true rfl) fl60 (fun _ h9 => h9) rfl (by decide +kernel) rfl rfl (Nat.le_of_ble_eq_true rfl) dX8_firstDraft_60 (fun H locs hP hD hS => ?_)
      have hP : va_P D vwCl [oq7 mo mo_st mo_at mo_isKept (nI mo_pe) (nI mo_hm) mo_draft 0 2 0 (-4) mo_tape (nI mo_tl) (nI mo_ps) (nI mo_fr) mo_sort mo_value (nI mo_ft) mo_wrongAt mo_row mo_orderMany (nI mo_fo) mo_lightest mo_heaviest mo_before mo_justSum mo_toldSum mo_allWays mo_lanes mo_sizes mo_cells mo_torn mo_had, _] H := hP
      have hD : va_D A [oq7 mo mo_st mo_at mo_isKept (nI mo_pe) (nI mo_hm) mo_draft 0 2 0 (-4) mo_tape (nI mo_tl) (nI mo_ps) (nI mo_fr) mo_sort mo_value (nI mo_ft) mo_wrongAt mo_row mo_orderMany (nI mo_fo) mo_lightest mo_heaviest mo_before mo_justSum mo_toldSum mo_allWays mo_lanes mo_sizes mo_cells mo_torn mo_had, _] := hD
      exact hs_vret hx hb hr hlocks hK hP hD hS (upd (upd (upd g 0 2) 1 1) 2 1) [0, 1] rfl (hs_upnd rfl) dX8_firstDraft_63 (⟨⟨⟨2, by (try dsimp only); rfl, by decide, by decide⟩, ⟨0, by (try dsimp only); exact hI.2 16 (by omega), by decide⟩, ⟨0, by (try dsimp only); exact hI.2 14 (by omega), by decide⟩, by (try dsimp only); exact hI.2 25 (by omega)⟩, rfl, rfl, rfl, fun j h1 h2 => by (try dsimp only); rw [hs_un (by omega), hs_un (by omega), hs_un (by omega)]; exact hI.2 j (by omega)⟩)
    · have nc_1 : ¬ 44 ≤ i := fun hq9 => c_1 ((nI_leI (a := 44) (b := i) (by omega) (by omega)).mpr hq9)
      refine lv_aload_n hx hb dX8_firstDraft_8 rfl (lv_at hl 1 rfl) ?_
      refine va_get (D := D) (ci := 7) (v := .ref mo_draft) (C := RX8) (T := TX8) (N := 32) hx hb hts hiX8 hown hK hP 0 rfl rfl 5 (Nat.le_of_ble_eq_true rfl) fl20 (fun _ h9 => h9) rfl dX8_firstDraft_9 ?_
      refine lv_iload_n hx hb dX8_firstDraft_12 rfl (lv_at hl 0 rfl) ?_
      refine lv_iconst (v := 0) hx hb dX8_firstDraft_13 hki_0 ?_
      refine va_iast hx hb hK hP hD hS 1 0 rfl rfl (vp_in_nI (show i < 44 by omega) (by decide)) dX8_firstDraft_14 (fun H locs hP hD hS => ?_)
      have hP : va_P D vwCl [oq7 mo mo_st mo_at mo_isKept (nI mo_pe) (nI mo_hm) mo_draft (nI mo_dp) (nI mo_dh) mo_toldLines mo_highest mo_tape (nI mo_tl) (nI mo_ps) (nI mo_fr) mo_sort mo_value (nI mo_ft) mo_wrongAt mo_row mo_orderMany (nI mo_fo) mo_lightest mo_heaviest mo_before mo_justSum mo_toldSum mo_allWays mo_lanes mo_sizes mo_cells mo_torn mo_had, oqI k mo_draft 44 (upd g ((nI i).toNatClampNeg) 0)] H := hP
      have hD : va_D A [oq7 mo mo_st mo_at mo_isKept (nI mo_pe) (nI mo_hm) mo_draft (nI mo_dp) (nI mo_dh) mo_toldLines mo_highest mo_tape (nI mo_tl) (nI mo_ps) (nI mo_fr) mo_sort mo_value (nI mo_ft) mo_wrongAt mo_row mo_orderMany (nI mo_fo) mo_lightest mo_heaviest mo_before mo_justSum mo_toldSum mo_allWays mo_lanes mo_sizes mo_cells mo_torn mo_had, oqI k mo_draft 44 (upd g ((nI i).toNatClampNeg) 0)] := hD
      refine lv_iinc (v := nI (i + 1)) (lv' := [(1, .int (nI (i + 1))), (0, .ref mo)]) hx hb dX8_firstDraft_15 hl (k := 0) rfl (nI_add (i) 1) (Nat.le_of_ble_eq_true rfl) rfl (fun ls hl => ?_)
      refine lv_goto (tgt := 2) hx hb dX8_firstDraft_18 rfl ?_
      exact ih2 (i + 1, upd g ((nI i).toNatClampNeg) 0) (by (try dsimp only); exact ⟨by omega, fun j hj => if e : j = i then hs_ue (by omega) e else (hs_uc (by omega) e).trans (hI.2 j (by omega))⟩) (by (try dsimp only); omega) _ _ _ hP hD hS (lv_sub hl [0, 1] rfl)
  · (try dsimp only); exact ⟨by omega, fun j hj => absurd hj (by omega)⟩
