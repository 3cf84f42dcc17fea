-- THE WHOLE TEXT, AS FUNCTIONS
/-- a Thing's numbers keep the document's bounds -/
def thB (N : Nat → Nat) (J : Nat → Int32) (F : Nat → Nat → Int32) : Prop := (∀ j, j < N 0 → vp_in (F 0 j) 10) ∧ (∀ j, j < N 1 → vp_in (F 1 j) 4) ∧ vp_in (J 0) 10 ∧ vp_in (J 1) 100 ∧ ∀ i, i < N 3 → (vp_in (F 2 i) 5 ∧ vp_in (F 3 i) 5)
def hLt (F : Nat → Nat → Int32) (i : Nat) : Nat := (F 2 i).toNatClampNeg
def hHv (F : Nat → Nat → Int32) (i : Nat) : Nat := (F 3 i).toNatClampNeg
theorem vp_clamp {v : Int32} {n : Nat} (h : vp_in v n) (hn : n < 2 ^ 31) : v = nI v.toNatClampNeg ∧ v.toNatClampNeg < n := by
  obtain ⟨j, hj, rfl⟩ := vp_in_of h hn
  rw [nI_clamp (by omega)]
  exact ⟨rfl, hj⟩
theorem thB_pr {N : Nat → Nat} {J : Nat → Int32} {F : Nat → Nat → Int32} (h : thB N J F) : hPr F (N 3) (hLt F) (hHv F) := fun i hi =>
  have a := vp_clamp (h.2.2.2.2 i hi).1 (by decide)
  have b := vp_clamp (h.2.2.2.2 i hi).2 (by decide)
  ⟨a.2, b.2, a.1, b.1⟩
theorem cBl_st (fm pl fo : Int32) (st : Nat) : cBl fm pl fo st = ((cBl fm pl fo st).1, (cBl fm pl fo st).2) := rfl
theorem htok_st {f : Nat → Int32} {len p : Nat} : p ≤ (htok f len p).2.1 ∧ (htok f len p).2.1 ≤ (htok f len p).2.2.1 := ⟨hrun_ge, htB_ge⟩
theorem htok_lt {f : Nat → Int32} {len p : Nat} (h : ¬ (htok f len p).1 = 0) : (htok f len p).2.1 < len ∧ (htok f len p).2.1 < (htok f len p).2.2.1 := by
  show htS f len p < len ∧ htS f len p < htB f len (htS f len p)
  have h1 : ¬ htK f len (htS f len p) = 0 := h
  have h2 : htS f len p < len := Decidable.byContradiction (fun h3 => h1 (htK_end h3))
  refine ⟨h2, ?_⟩
  unfold htB
  rw [if_pos h2]
  by_cases e : hsL (hks (f (htS f len p))) = true
  · rw [if_pos e]
    rw [hrun_step h2 (decide_eq_true rfl)]
    exact Nat.lt_of_lt_of_le (Nat.lt_succ_self _) hrun_ge
  · rw [if_neg e]
    exact Nat.lt_succ_self _
theorem cTN_be {f : Nat → Int32} {len : Nat} {fm pl kd : Int32} {st be : Nat} {va : Int32} {lo hi : Nat} {un : Int32} : be ≤ (cTN f len fm pl kd st be va lo hi un).2.2.2.2.1 := by
  by_cases e : (cLk fm pl kd st va lo hi un).1 = 0
  · rw [cTN_yes e]
    exact Nat.le_trans htok_st.1 htok_st.2
  · rw [cTN_no e]
    exact Nat.le_refl be
theorem cCl_be {f : Nat → Int32} {len : Nat} : ∀ (n c : Nat) (w : Nat → Int32) (b : Int32 × Int32) (t : Int32 × Nat × Nat × Int32), t.2.2.1 ≤ (cCl f len n c w b t).2.2.2.2.2.1 := by
  intro n
  induction n with
  | zero => intro c w b t; exact Nat.le_refl _
  | succ n ih =>
    intro c w b t
    rw [cCl]
    by_cases e : b.1 = 0 ∧ (c < 2 ∨ t.1 = 2)
    · rw [if_pos e]
      exact Nat.le_trans cTN_be (ih _ _ _ _)
    · rw [if_neg e]
      exact Nat.le_refl _
theorem cTP_be {f : Nat → Int32} {len : Nat} {fm pl kd : Int32} {st be : Nat} {va : Int32} : be ≤ (cTP f len fm pl kd st be va).2.2.2.2.2.1 := by
  unfold cTP
  have a : be ≤ (cTN f len fm pl kd st be va 0 4 (-4)).2.2.2.2.1 := cTN_be
  generalize cTN f len fm pl kd st be va 0 4 (-4) = x at a ⊢
  exact Nat.le_trans a cTN_be
theorem cBd_be {f : Nat → Int32} {len : Nat} {ln : Int32} {ck : Int32 × Int32 × Int32} {t : Int32 × Nat × Nat × Int32} {d : (Nat → Nat) × (Nat → Int32) × (Nat → Nat → Int32)} : t.2.2.1 ≤ (cBd f len ln ck t d).2.1.2.2.1 := by
  unfold cBd
  by_cases h4 : ln = 4
  · rw [if_pos h4]; exact cCl_be 8 0 _ (ck.1, ck.2.1) (t.1, t.2.1, t.2.2.1, t.2.2.2)
  · rw [if_neg h4]
    by_cases h5 : ln = 5
    · rw [if_pos h5]; dsimp only; exact cTN_be
    · rw [if_neg h5]
      by_cases h6 : ln = 6
      · rw [if_pos h6]; dsimp only; exact cTN_be
      · rw [if_neg h6]
        by_cases h7 : ln = 7
        · rw [if_pos h7]; dsimp only; exact cTN_be
        · rw [if_neg h7]
          by_cases h8 : ln = 8
          · rw [if_pos h8]; dsimp only; exact cTP_be
          · rw [if_neg h8]; dsimp only; exact Nat.le_refl _
/-- behind a line without a FAULT the next TOKEN is looked at further on -/
theorem cTL_tok {f : Nat → Int32} {len : Nat} {ln : Int32} {x : (Int32 × Int32 × Int32) × (Int32 × Nat × Nat × Int32) × (Nat → Nat) × (Nat → Int32) × (Nat → Nat → Int32)} (h : (cTL f len ln x).1.1 = 0) : ∃ p : Nat, x.2.1.2.2.1 ≤ p ∧ (cTL f len ln x).2.1 = htok f len p := by
  unfold cTL at h ⊢
  by_cases e : (cCN x.1.1 x.1.2.1 x.1.2.2 x.2.1.1 x.2.1.2.1 (x.2.2.1 1) (x.2.2.1 3) ln).1 = 0
  · rw [if_pos e] at h ⊢
    rw [cTLn_eq] at h ⊢
    generalize hB : cBd f len ln (cCN x.1.1 x.1.2.1 x.1.2.2 x.2.1.1 x.2.1.2.1 (x.2.2.1 1) (x.2.2.1 3) ln) (htok f len x.2.1.2.2.1) x.2.2 = B at h ⊢
    have hbe : x.2.1.2.2.1 ≤ B.2.1.2.2.1 := by
      rw [← hB]
      exact Nat.le_trans (Nat.le_trans htok_st.1 htok_st.2) cBd_be
    have h2 : (cTM f len B.1.1 B.1.2 B.2.1.1 B.2.1.2.1 B.2.1.2.2.1 B.2.1.2.2.2).1.1 = 0 := h
    refine ⟨B.2.1.2.2.1, hbe, ?_⟩
    show (cTM f len B.1.1 B.1.2 B.2.1.1 B.2.1.2.1 B.2.1.2.2.1 B.2.1.2.2.2).2 = _
    unfold cTM at h2 ⊢
    by_cases e2 : (cBF B.1.1 B.1.2 B.2.1.1 3 B.2.1.2.1).1 = 0
    · rw [if_pos e2]
    · rw [if_neg e2] at h2
      exact absurd h2 e2
  · rw [if_neg e] at h
    exact absurd h e
/-- a line whose NAME can't be taken -/
theorem cTL_bad {f : Nat → Int32} {len : Nat} {ln : Int32} {x : (Int32 × Int32 × Int32) × (Int32 × Nat × Nat × Int32) × (Nat → Nat) × (Nat → Int32) × (Nat → Nat → Int32)} (h : ¬ (cCN x.1.1 x.1.2.1 x.1.2.2 x.2.1.1 x.2.1.2.1 (x.2.2.1 1) (x.2.2.1 3) ln).1 = 0) : cTL f len ln x = (cCN x.1.1 x.1.2.1 x.1.2.2 x.2.1.1 x.2.1.2.1 (x.2.2.1 1) (x.2.2.1 3) ln, x.2.1, x.2.2) := by
  unfold cTL
  exact if_neg h
theorem cTA_on {f : Nat → Int32} {len n li : Nat} {x : (Int32 × Int32 × Int32) × (Int32 × Nat × Nat × Int32) × (Nat → Nat) × (Nat → Int32) × (Nat → Nat → Int32)} (h : ¬ x.1.1 = 0) : cTA f len n li x = (x, li) := cTA_stop (Or.inr (fun z => h z.1))
/-- the reference has met a FAULT: the class meets it too, at once or with one line more -/
theorem cTA_exit {f : Nat → Int32} {len li : Nat} {x : (Int32 × Int32 × Int32) × (Int32 × Nat × Nat × Int32) × (Nat → Nat) × (Nat → Int32) × (Nat → Nat → Int32)} {u : (Nat × Nat) × Int32 × Int32 × Nat × Int32} (hl : len ≤ 160) (hs : hSyU (x.1.1, x.1.2.1) x.2.1 u) (hp : x.1.1 = 0 → ∃ p : Nat, li ≤ p ∧ x.2.1 = htok f len p) (hf : ¬ u.2.2.2.1 = 0) : ¬ (cTA f len (160 - li) li x).1.1.1 = 0 ∧ u.2.2.2.2 = (cTA f len (160 - li) li x).1.1.2.1 := by
  rcases hs with ⟨_, h2, _⟩ | ⟨h1, h2, _, h4⟩ | ⟨h1, h2, h3⟩
  · exact absurd h2 hf
  · have h1' : x.1.1 = 0 := h1
    have h2' : x.2.1.1 = 4 := h2
    obtain ⟨p, hlp, ep⟩ := hp h1'
    have hk : ¬ (htok f len p).1 = 0 := by rw [← ep, h2']; decide
    have hst := htok_lt hk
    have hsp := (htok_st (f := f) (len := len) (p := p)).1
    have hli : li < 160 := by omega
    have hck : cCN x.1.1 x.1.2.1 x.1.2.2 x.2.1.1 x.2.1.2.1 (x.2.2.1 1) (x.2.2.1 3) (-4) = (1, nI x.2.1.2.1, x.1.2.2) := by
      rw [h1', h2', cCN, if_pos rfl, cBF_4, cBl_on (by decide : ¬ (1 : Int32) = 0)]
    have hln : cLn f x.2.1.1 x.2.1.2.1 x.2.1.2.2.1 = -4 := cLn_no (by rw [h2']; decide)
    have e1 : cTA f len (160 - li) li x = cTA f len (160 - (li + 1)) (li + 1) (cTL f len (-4) x) := by
      rw [show 160 - li = (160 - (li + 1)) + 1 by omega, cTA_step ⟨h1', by rw [h2']; decide⟩, hln]
    have e2 : cTL f len (-4) x = ((1, nI x.2.1.2.1, x.1.2.2), x.2.1, x.2.2) := by
      rw [cTL_bad (by rw [hck]; exact (by decide : ¬ (1 : Int32) = 0)), hck]
    rw [e1, e2, cTA_on (by exact (by decide : ¬ (1 : Int32) = 0))]
    exact ⟨(by decide : ¬ (1 : Int32) = 0), h4⟩
  · have h1' : ¬ x.1.1 = 0 := h1
    rw [cTA_on h1']
    exact ⟨h1', h3⟩
/-- the bounds of what is read -/
theorem cTN_rng {f : Nat → Int32} {len : Nat} {fm pl kd : Int32} {st be : Nat} {va : Int32} {lo hi : Nat} {un : Int32} (hl : lo ≤ hi) (hh : hi < 2 ^ 30) : vp_in (cTN f len fm pl kd st be va lo hi un).1 (hi + 1) := by
  by_cases e : (cLk fm pl kd st va lo hi un).1 = 0
  · rw [cTN_yes e]
    have h2 : hsin va (nI lo) (nI hi) = true := by
      cases c : hsin va (nI lo) (nI hi) with
      | true => rfl
      | false =>
        unfold cLk at e
        rw [if_neg (fun z => absurd z.1 (by rw [c]; decide))] at e
        exact absurd e (cBl_ne (by decide))
    obtain ⟨j, hj1, hj2, ej⟩ := hs_rng (by omega) hl h2
    show vp_in va (hi + 1)
    rw [ej]
    exact vp_in_nI (by omega) (by omega)
  · rw [cTN_no e]
    exact vp_in_nI (by omega) (by omega)
theorem cCl_w {f : Nat → Int32} {len : Nat} : ∀ (n c : Nat) (w : Nat → Int32) (b : Int32 × Int32) (t : Int32 × Nat × Nat × Int32), (∀ j, j < c → vp_in (w j) 10) → ∀ j, j < (cCl f len n c w b t).1 → vp_in ((cCl f len n c w b t).2.1 j) 10 := by
  intro n
  induction n with
  | zero => intro c w b t h; exact h
  | succ n ih =>
    intro c w b t h
    rw [cCl]
    by_cases e : b.1 = 0 ∧ (c < 2 ∨ t.1 = 2)
    · rw [if_pos e]
      refine ih _ _ _ _ (fun j hj => ?_)
      by_cases e2 : j = c
      · rw [hs_uq e2]; exact cTN_rng (by decide) (by decide)
      · rw [hs_un e2]; exact h j (by omega)
    · rw [if_neg e]
      exact h
theorem cTP_rng {f : Nat → Int32} {len : Nat} {fm pl kd : Int32} {st be : Nat} {va : Int32} : vp_in (cTP f len fm pl kd st be va).1 5 ∧ vp_in (cTP f len fm pl kd st be va).2.1 5 := by
  unfold cTP
  exact ⟨cTN_rng (by decide) (by decide), cTN_rng (by decide) (by decide)⟩
theorem thB_upd {f : Nat → Int32} {n M : Nat} {v : Int32} (hn : n < 2 ^ 31) (h : ∀ j, j < n → vp_in (f j) M) (hv : vp_in v M) : ∀ j, j < n + 1 → vp_in (upd f (nI n).toNatClampNeg v j) M := by
  intro j hj
  by_cases e : j = n
  · rw [hs_ue hn e]; exact hv
  · rw [hs_uc hn e]; exact h j (by omega)
theorem cMk_d {f : Nat → Int32} {len : Nat} {b : Int32 × Int32} {to : Int32} {t : Int32 × Nat × Nat × Int32} {d : (Nat → Nat) × (Nat → Int32) × (Nat → Nat → Int32)} : (cMk f len b to t d).2.2 = d := rfl
theorem cTL_thB {f : Nat → Int32} {len : Nat} {ln : Int32} {x : (Int32 × Int32 × Int32) × (Int32 × Nat × Nat × Int32) × (Nat → Nat) × (Nat → Int32) × (Nat → Nat → Int32)} (hN : thN x.2.2.1) (h : thB x.2.2.1 x.2.2.2.1 x.2.2.2.2) (hl : ln = -4 ∨ ln = 0 ∨ ln = 1 ∨ ln = 2 ∨ ln = 3 ∨ ln = 4 ∨ ln = 5 ∨ ln = 6 ∨ ln = 7 ∨ ln = 8) : thB (cTL f len ln x).2.2.1 (cTL f len ln x).2.2.2.1 (cTL f len ln x).2.2.2.2 := by
  unfold cTL
  by_cases e : (cCN x.1.1 x.1.2.1 x.1.2.2 x.2.1.1 x.2.1.2.1 (x.2.2.1 1) (x.2.2.1 3) ln).1 = 0
  · rw [if_pos e]
    have hm : ¬ ln = -4 := fun z => by
      rw [z, cCN, if_pos rfl] at e
      exact absurd e (cBl_ne (by decide))
    generalize cCN x.1.1 x.1.2.1 x.1.2.2 x.2.1.1 x.2.1.2.1 (x.2.2.1 1) (x.2.2.1 3) ln = ck at e ⊢
    generalize htok f len x.2.1.2.2.1 = t
    obtain ⟨b1, b2, b3, b4, b5⟩ := h
    obtain ⟨I0, I1, -, I3, -⟩ := hN
    unfold cTLn
    by_cases h4 : ln = 4
    · rw [if_pos h4, cMk_d]
      exact ⟨cCl_w 8 0 _ _ _ (fun j hj => absurd hj (Nat.not_lt_zero j)), b2, b3, b4, b5⟩
    · rw [if_neg h4]
      by_cases h5 : ln = 5
      · rw [if_pos h5, cMk_d]
        exact ⟨b1, b2, cTN_rng (by decide) (by decide), b4, b5⟩
      · rw [if_neg h5]
        by_cases h6 : ln = 6
        · rw [if_pos h6, cMk_d]
          exact ⟨b1, b2, b3, cTN_rng (by decide) (by decide), b5⟩
        · rw [if_neg h6]
          by_cases h7 : ln = 7
          · rw [if_pos h7, cMk_d]
            exact ⟨b1, b2, b3, b4, b5⟩
          · rw [if_neg h7]
            by_cases h8 : ln = 8
            · rw [if_pos h8, cMk_d]
              exact ⟨b1, b2, b3, b4, fun i hi => ⟨thB_upd (by omega) (fun j hj => (b5 j hj).1) cTP_rng.1 i hi, thB_upd (by omega) (fun j hj => (b5 j hj).2) cTP_rng.2 i hi⟩⟩
            · rw [if_neg h8, cMk_d]
              refine ⟨b1, thB_upd (by omega) b2 ?_, b3, b4, b5⟩
              rcases hl with h9 | h9 | h9 | h9 | h9 | h9 | h9 | h9 | h9 | h9
              · exact absurd h9 hm
              · rw [h9]; exact vp_in_nI (n := 0) (by decide) (by decide)
              · rw [h9]; exact vp_in_nI (n := 1) (by decide) (by decide)
              · rw [h9]; exact vp_in_nI (n := 2) (by decide) (by decide)
              · rw [h9]; exact vp_in_nI (n := 3) (by decide) (by decide)
              · exact absurd h9 h4
              · exact absurd h9 h5
              · exact absurd h9 h6
              · exact absurd h9 h7
              · exact absurd h9 h8
  · rw [if_neg e]
    exact h
theorem cLn_10 (f : Nat → Int32) (kd : Int32) (st be : Nat) : cLn f kd st be = -4 ∨ cLn f kd st be = 0 ∨ cLn f kd st be = 1 ∨ cLn f kd st be = 2 ∨ cLn f kd st be = 3 ∨ cLn f kd st be = 4 ∨ cLn f kd st be = 5 ∨ cLn f kd st be = 6 ∨ cLn f kd st be = 7 ∨ cLn f kd st be = 8 := by
  unfold cLn
  by_cases h : kd = 1
  · rw [if_pos h]
    by_cases a0 : A_word f st be 0 = true
    · rw [if_pos a0]; exact Or.inr (Or.inl rfl)
    rw [if_neg a0]
    by_cases a1 : A_word f st be 1 = true
    · rw [if_pos a1]; exact Or.inr (Or.inr (Or.inl rfl))
    rw [if_neg a1]
    by_cases a2 : A_word f st be 2 = true
    · rw [if_pos a2]; exact Or.inr (Or.inr (Or.inr (Or.inl rfl)))
    rw [if_neg a2]
    by_cases a3 : A_word f st be 3 = true
    · rw [if_pos a3]; exact Or.inr (Or.inr (Or.inr (Or.inr (Or.inl rfl))))
    rw [if_neg a3]
    by_cases a4 : A_word f st be 4 = true
    · rw [if_pos a4]; exact Or.inr (Or.inr (Or.inr (Or.inr (Or.inr (Or.inl rfl)))))
    rw [if_neg a4]
    by_cases a5 : A_word f st be 5 = true
    · rw [if_pos a5]; exact Or.inr (Or.inr (Or.inr (Or.inr (Or.inr (Or.inr (Or.inl rfl))))))
    rw [if_neg a5]
    by_cases a6 : A_word f st be 6 = true
    · rw [if_pos a6]; exact Or.inr (Or.inr (Or.inr (Or.inr (Or.inr (Or.inr (Or.inr (Or.inl rfl)))))))
    rw [if_neg a6]
    by_cases a7 : A_word f st be 7 = true
    · rw [if_pos a7]; exact Or.inr (Or.inr (Or.inr (Or.inr (Or.inr (Or.inr (Or.inr (Or.inr (Or.inl rfl))))))))
    rw [if_neg a7]
    by_cases a8 : A_word f st be 8 = true
    · rw [if_pos a8]; exact Or.inr (Or.inr (Or.inr (Or.inr (Or.inr (Or.inr (Or.inr (Or.inr (Or.inr rfl))))))))
    rw [if_neg a8]; exact Or.inl rfl
  · rw [if_neg h]; exact Or.inl rfl
-- THE CASE, behind all lines
/-- is there a pair of a HALF that there is not -/
def badP (n : Nat) (lt hv : Nat → Nat) : Nat → Bool
  | 0 => false
  | k + 1 => badP n lt hv k || !(decide (lt k < n) && decide (hv k < n))
theorem badP_iff {n : Nat} {lt hv : Nat → Nat} : ∀ m : Nat, badP n lt hv m = false ↔ ∀ k, k < m → (lt k < n ∧ hv k < n) := by
  intro m
  induction m with
  | zero => exact ⟨fun _ k hk => absurd hk (Nat.not_lt_zero k), fun _ => rfl⟩
  | succ m ih =>
    show (badP n lt hv m || !(decide (lt m < n) && decide (hv m < n))) = false ↔ _
    rw [Bool.or_eq_false_iff, ih, Bool.not_eq_false', Bool.and_eq_true, decide_eq_true_eq, decide_eq_true_eq]
    constructor
    · rintro ⟨h1, h2⟩ k hk
      by_cases e : k = m
      · rw [e]; exact h2
      · exact h1 k (by omega)
    · intro h
      exact ⟨fun k hk => h k (by omega), h m (by omega)⟩
/-- FAULT and place behind the look at the case -/
def cCC (pl : Int32) (st : Nat) (N : Nat → Nat) (F : Nat → Nat → Int32) : Int32 × Int32 := if badP (N 2) (hLt F) (hHv F) (N 3) = true then (6, nI st) else if Wm (N 2) (hAh (hLt F) (hHv F) (N 3)) (N 2) (2 ^ N 2 - 1) = 0 then (7, nI st) else (0, pl)
theorem hslt_nI {a n : Nat} (ha : a < 2 ^ 30) : hslt (nI a) n = decide (a < n) := by
  unfold hslt
  rw [nI_toInt (by omega)]
  by_cases h : a < n
  · rw [decide_eq_true h, decide_eq_true (by omega), decide_eq_true (by omega)]; rfl
  · rw [decide_eq_false h, decide_eq_false (p := ((a : Int) < (n : Int))) (by omega), Bool.and_false]
theorem cBl6 {fx px pl : Int32} {st : Nat} {c : Bool} (h : (fx, px) = (if c = true then ((6 : Int32), nI st) else (0, pl))) : cBl fx px 6 st = (6, nI st) := by
  by_cases e : c = true
  · rw [if_pos e] at h
    obtain ⟨rfl, rfl⟩ := Prod.mk.inj h
    exact cBl_on (by decide)
  · rw [if_neg e] at h
    obtain ⟨rfl, rfl⟩ := Prod.mk.inj h
    exact cBl_0
theorem cBl67 {q : Int32} {st : Nat} : ((cBl 6 q 7 st).1, (cBl 6 q 7 st).2) = (6, q) := by rw [cBl_on (show ¬ (6 : Int32) = 0 from by decide)]
theorem cBl07 {q : Int32} {st : Nat} : ((cBl 0 q 7 st).1, (cBl 0 q 7 st).2) = (7, nI st) := by rw [cBl_0]
/-- the draft at first, over the rows that are there -/
def cT0 (f : Nat → Int32) (len : Nat) (F : Nat → Nat → Int32) : (Int32 × Int32 × Int32) × (Int32 × Nat × Nat × Int32) × (Nat → Nat) × (Nat → Int32) × (Nat → Nat → Int32) := ((0, 0, 0), htok f len 0, (fun j => ([2, 0, 2, 0, 0] : List (Nat)).getD j 0), (fun j => ([0, 0, 0] : List (Int32)).getD j 0), (fun j => ([upd (upd (F 0) 0 1) 1 1, F 1, F 2, F 3, F 4, F 5, F 6] : List (Nat → Int32)).getD j hsz))
/-- all lines; then the case -/
def cTB (f : Nat → Int32) (len : Nat) (F : Nat → Nat → Int32) : ((Int32 × Int32 × Int32) × (Int32 × Nat × Nat × Int32) × (Nat → Nat) × (Nat → Int32) × (Nat → Nat → Int32)) × Nat := cTA f len 160 0 (cT0 f len F)
/-- FAULT and place of a text -/
def cTX (f : Nat → Int32) (len : Nat) (F : Nat → Nat → Int32) : Int32 × Int32 := if (cTB f len F).1.1.1 = 0 then cCC (cTB f len F).1.1.2.1 (cTB f len F).1.2.1.2.1 (cTB f len F).1.2.2.1 (cTB f len F).1.2.2.2.2 else ((cTB f len F).1.1.1, (cTB f len F).1.1.2.1)
theorem cT0_thB {f : Nat → Int32} {len : Nat} {F : Nat → Nat → Int32} : thB (cT0 f len F).2.2.1 (cT0 f len F).2.2.2.1 (cT0 f len F).2.2.2.2 := by
  refine ⟨fun j hj => ?_, fun j hj => absurd hj (Nat.not_lt_zero j), vp_in_nI (n := 0) (by decide) (by decide), vp_in_nI (n := 0) (by decide) (by decide), fun i hi => absurd hi (Nat.not_lt_zero i)⟩
  have hj2 : j < 2 := hj
  show vp_in (upd (upd (F 0) 0 1) 1 1 j) 10
  rcases (show j = 0 ∨ j = 1 by omega) with rfl | rfl
  · exact vp_in_nI (n := 1) (by decide) (by decide)
  · exact vp_in_nI (n := 1) (by decide) (by decide)
theorem cCC_0 {pl : Int32} {st : Nat} {N : Nat → Nat} {F : Nat → Nat → Int32} (h : (cCC pl st N F).1 = 0) : badP (N 2) (hLt F) (hHv F) (N 3) = false ∧ ¬ Wm (N 2) (hAh (hLt F) (hHv F) (N 3)) (N 2) (2 ^ N 2 - 1) = 0 := by
  unfold cCC at h
  cases e : badP (N 2) (hLt F) (hHv F) (N 3) with
  | true => rw [if_pos e] at h; exact absurd h (show ¬ (6 : Int32) = 0 from by decide)
  | false =>
    rw [if_neg (by rw [e]; decide)] at h
    refine ⟨rfl, fun z => ?_⟩
    rw [if_pos z] at h
    exact absurd h (show ¬ (7 : Int32) = 0 from by decide)
/-- the first draft of both sides -/
theorem rDr_0 {df : Nat → Int32} {F : Nat → Nat → Int32} {f : Nat → Int32} {len : Nat} (h : df 0 = 2 ∧ df 1 = 1 ∧ df 2 = 1 ∧ ∀ j, 3 ≤ j → j < 44 → df j = 0) : rDr (cT0 f len F).2.2.1 (cT0 f len F).2.2.2.1 (cT0 f len F).2.2.2.2 df 0 2 (-4) := by
  obtain ⟨h0, h1, h2, hz⟩ := h
  refine ⟨⟨h0, fun j hj => ?_⟩, ⟨rfl, fun j hj => absurd hj (Nat.not_lt_zero j)⟩, ⟨hz 13 (by decide) (by decide), hz 14 (by decide) (by decide), hz 15 (by decide) (by decide)⟩, rfl, ⟨hz 16 (by decide) (by decide), fun j hj => absurd hj (Nat.not_lt_zero j)⟩, ⟨hz 25 (by decide) (by decide), rfl⟩, fun j hj => absurd hj (Nat.not_lt_zero j), Or.inl ⟨rfl, rfl⟩⟩
  have hj2 : j < 2 := hj
  rcases (show j = 0 ∨ j = 1 by omega) with rfl | rfl
  · exact h1
  · exact h2
/-- the highest HALF of the pairs against how many there are -/
theorem rDr_bad {N : Nat → Nat} {J : Nat → Int32} {F : Nat → Nat → Int32} {df : Nat → Int32} {dp dh : Nat} {hg : Int32} (h : rDr N J F df dp dh hg) (hb : thB N J F) (hh : dh < 2 ^ 30) : badP (N 2) (hLt F) (hHv F) (N 3) = false ↔ hg < nI dh := by
  obtain ⟨-, -, -, e, -, -, h1, h2⟩ := h
  have pr := thB_pr hb
  subst e
  rw [badP_iff]
  constructor
  · intro g
    rcases h2 with ⟨_, e4⟩ | ⟨j, hj, e5⟩
    · rw [e4, Int32.lt_iff_toInt_lt, nI_toInt (by omega)]
      have z : (-4 : Int32).toInt = -4 := by decide
      omega
    · have gj := g j hj
      have pj := pr j hj
      rcases e5 with e5 | e5
      · rw [e5, pj.2.2.1]; exact (nI_ltI (by omega) (by omega)).mpr gj.1
      · rw [e5, pj.2.2.2]; exact (nI_ltI (by omega) (by omega)).mpr gj.2
  · intro g k hk
    have hk1 := h1 k hk
    have pk := pr k hk
    rw [pk.2.2.1, pk.2.2.2] at hk1
    have a : nI (hLt F k) < nI (N 2) := by
      have := hk1.1
      rw [Int32.le_iff_toInt_le] at this
      rw [Int32.lt_iff_toInt_lt] at g ⊢
      omega
    have b : nI (hHv F k) < nI (N 2) := by
      have := hk1.2
      rw [Int32.le_iff_toInt_le] at this
      rw [Int32.lt_iff_toInt_lt] at g ⊢
      omega
    exact ⟨(nI_ltI (by omega) (by omega)).mp a, (nI_ltI (by omega) (by omega)).mp b⟩
theorem rDr_pa {N : Nat → Nat} {J : Nat → Int32} {F : Nat → Nat → Int32} {df : Nat → Int32} {dp dh : Nat} {hg : Int32} (h : rDr N J F df dp dh hg) (hb : thB N J F) : ∀ k, k < N 3 → (df (17 + k) = nI (10 * hLt F k + hHv F k) ∧ hLt F k < 5 ∧ hHv F k < 5) := by
  obtain ⟨-, -, -, -, ⟨-, e⟩, -, -⟩ := h
  intro k hk
  have pk := thB_pr hb k hk
  refine ⟨?_, pk.1, pk.2.1⟩
  rw [e k hk, pk.2.2.1, pk.2.2.2, hs_ten]
