theorem cTM_on {f : Nat → Int32} {len : Nat} {b : Int32 × Int32} {t : Int32 × Nat × Nat × Int32} (h : ¬ b.1 = 0) : cTM f len b.1 b.2 t.1 t.2.1 t.2.2.1 t.2.2.2 = (b, t) := by
  have e : cBF b.1 b.2 t.1 3 t.2.1 = (b.1, b.2) := cBF_on h
  rw [cTM, e, if_neg h]
theorem cTM_4 {f : Nat → Int32} {len : Nat} {b : Int32 × Int32} {t : Int32 × Nat × Nat × Int32} (h : b.1 = 0) (h4 : t.1 = 4) : cTM f len b.1 b.2 t.1 t.2.1 t.2.2.1 t.2.2.2 = ((1, nI t.2.1), t) := by
  rw [cTM, h, h4, cBF_4, if_neg (show ¬ (1 : Int32) = 0 from by decide), ← h4]
theorem cTM_2 {f : Nat → Int32} {len : Nat} {b : Int32 × Int32} {t : Int32 × Nat × Nat × Int32} (h : b.1 = 0) (h4 : ¬ t.1 = 4) (h3 : ¬ t.1 = 3) : cTM f len b.1 b.2 t.1 t.2.1 t.2.2.1 t.2.2.2 = ((2, nI t.2.1), t) := by
  have e : cBF b.1 b.2 t.1 3 t.2.1 = (2, nI t.2.1) := by rw [h, cBF, if_neg h4, if_neg h3, cBl_0]
  rw [cTM, e, if_neg (show ¬ (2 : Int32) = 0 from by decide)]
theorem cTM_3 {f : Nat → Int32} {len : Nat} {b : Int32 × Int32} {t : Int32 × Nat × Nat × Int32} (h : b.1 = 0) (h3 : t.1 = 3) : cTM f len b.1 b.2 t.1 t.2.1 t.2.2.1 t.2.2.2 = (b, htok f len t.2.2.1) := by
  have e : cBF b.1 b.2 t.1 3 t.2.1 = (b.1, b.2) := by rw [cBF, if_neg (by rw [h3]; decide), if_pos h3]
  rw [cTM, e, if_pos h]
/-- the MARK against 'if there is no FAULT: a MARK is due; the next TOKEN' -/
theorem hSyM_ft {f : Nat → Int32} {len : Nat} {b : Int32 × Int32} {t : Int32 × Nat × Nat × Int32} {u : (Nat × Nat) × Int32 × Int32 × Nat × Int32} (h : hSyU b t u) (hf : ¬ u.2.2.2.1 = 0) : hSyU (cTM f len b.1 b.2 t.1 t.2.1 t.2.2.1 t.2.2.2).1 (cTM f len b.1 b.2 t.1 t.2.1 t.2.2.1 t.2.2.2).2 u := by
  rcases h with ⟨_, h2, _⟩ | ⟨h1, h2, _, h4⟩ | ⟨h1, h2, h3⟩
  · exact absurd h2 hf
  · rw [cTM_4 h1 h2]
    exact hSyU_C (by decide : ¬ (1 : Int32) = 0) hf h4
  · rw [cTM_on h1]
    exact Or.inr (Or.inr ⟨h1, h2, h3⟩)
/-- a TOKEN that is none, ahead of what a line holds: the class meets it there -/
theorem cBd_B {f : Nat → Int32} {len : Nat} {ln : Int32} {ck : Int32 × Int32 × Int32} {t : Int32 × Nat × Nat × Int32} {d : (Nat → Nat) × (Nat → Int32) × (Nat → Nat → Int32)} {u : (Nat × Nat) × Int32 × Int32 × Nat × Int32} (h : hSyU (ck.1, ck.2.1) t u) (hf : ¬ u.2.2.2.1 = 0) : hSyU (cBd f len ln ck t d).1 (cBd f len ln ck t d).2.1 u := by
  have hN : ∀ (lo hi : Nat) (un : Int32), hSyU (cTN f len ck.1 ck.2.1 t.1 t.2.1 t.2.2.1 t.2.2.2 lo hi un).2.1 (cTN f len ck.1 ck.2.1 t.1 t.2.1 t.2.2.1 t.2.2.2 lo hi un).2.2 u := fun lo hi un => by
    have h9 := cLk_ft (lo := lo) (hi := hi) (un := un) h hf
    rw [cTN_no h9.1]
    exact hSyU_C h9.1 hf h9.2
  unfold cBd
  by_cases h4 : ln = 4
  · rw [if_pos h4]
    exact cTC_start (T1 := cTN f len ck.1 ck.2.1 t.1 t.2.1 t.2.2.1 t.2.2.2 0 9 (-4)) rfl rfl (by
      have h9 := cLk_ft (lo := 0) (hi := 9) (un := -4) h hf
      rw [cTN_no h9.1]
      rw [cTN_on h9.1]
      exact hSyU_C h9.1 hf h9.2) hf
  · rw [if_neg h4]
    by_cases h5 : ln = 5
    · rw [if_pos h5]; exact hN 0 9 (-4)
    · rw [if_neg h5]
      by_cases h6 : ln = 6
      · rw [if_pos h6]; exact hN 0 99 (-4)
      · rw [if_neg h6]
        by_cases h7 : ln = 7
        · rw [if_pos h7]; exact hN 2 5 (-4)
        · rw [if_neg h7]
          by_cases h8 : ln = 8
          · rw [if_pos h8]
            have h9 := cLk_ft (lo := 0) (hi := 4) (un := -4) h hf
            have e1 : (cTN f len ck.1 ck.2.1 t.1 t.2.1 t.2.2.1 t.2.2.2 0 4 (-4)).2 = (cLk ck.1 ck.2.1 t.1 t.2.1 t.2.2.2 0 4 (-4), t) := by rw [cTN_no h9.1]
            have e2 : (cTP f len ck.1 ck.2.1 t.1 t.2.1 t.2.2.1 t.2.2.2).2.2 = (cLk ck.1 ck.2.1 t.1 t.2.1 t.2.2.2 0 4 (-4), t) := by
              unfold cTP
              show (cTN f len (cTN f len ck.1 ck.2.1 t.1 t.2.1 t.2.2.1 t.2.2.2 0 4 (-4)).2.1.1 (cTN f len ck.1 ck.2.1 t.1 t.2.1 t.2.2.1 t.2.2.2 0 4 (-4)).2.1.2 (cTN f len ck.1 ck.2.1 t.1 t.2.1 t.2.2.1 t.2.2.2 0 4 (-4)).2.2.1 (cTN f len ck.1 ck.2.1 t.1 t.2.1 t.2.2.1 t.2.2.2 0 4 (-4)).2.2.2.1 (cTN f len ck.1 ck.2.1 t.1 t.2.1 t.2.2.1 t.2.2.2 0 4 (-4)).2.2.2.2.1 (cTN f len ck.1 ck.2.1 t.1 t.2.1 t.2.2.1 t.2.2.2 0 4 (-4)).2.2.2.2.2 0 4 (cTN f len ck.1 ck.2.1 t.1 t.2.1 t.2.2.1 t.2.2.2 0 4 (-4)).1).2 = _
              rw [cTN_on (by rw [e1]; exact h9.1), e1]
            rw [e2]
            exact hSyU_C h9.1 hf h9.2
          · rw [if_neg h8]
            exact h
theorem told_bit : ∀ a, a < 256 → ∀ l, l < 4 → (nI a >>> (nI (4 + l) &&& 31) &&& 1 = 1 ↔ ¬ nI (2 * a) >>> (nI (5 + l) &&& 31) &&& 1 = 0) := by decide +kernel
theorem told_or : ∀ a, a < 256 → ∀ l, l < 4 → (nI a ||| 1 <<< (nI (4 + l) &&& 31) = nI (a ||| 2 ^ (4 + l)) ∧ nI (2 * a) ||| 1 <<< (nI (5 + l) &&& 31) = nI (2 * (a ||| 2 ^ (4 + l))) ∧ a ||| 2 ^ (4 + l) < 256) := by decide +kernel
theorem cTL_no {f : Nat → Int32} {len : Nat} {ln : Int32} {x : (Int32 × Int32 × Int32) × (Int32 × Nat × Nat × Int32) × (Nat → Nat) × (Nat → Int32) × (Nat → Nat → Int32)} (h : ¬ (cCN x.1.1 x.1.2.1 x.1.2.2 x.2.1.1 x.2.1.2.1 (x.2.2.1 1) (x.2.2.1 3) ln).1 = 0) : cTL f len ln x = (cCN x.1.1 x.1.2.1 x.1.2.2 x.2.1.1 x.2.1.2.1 (x.2.2.1 1) (x.2.2.1 3) ln, x.2.1, x.2.2) := by rw [cTL, if_neg h]
theorem cTL_yes {f : Nat → Int32} {len : Nat} {ln : Int32} {x : (Int32 × Int32 × Int32) × (Int32 × Nat × Nat × Int32) × (Nat → Nat) × (Nat → Int32) × (Nat → Nat → Int32)} (h : (cCN x.1.1 x.1.2.1 x.1.2.2 x.2.1.1 x.2.1.2.1 (x.2.2.1 1) (x.2.2.1 3) ln).1 = 0) : cTL f len ln x = cMk f len (cBd f len ln (cCN x.1.1 x.1.2.1 x.1.2.2 x.2.1.1 x.2.1.2.1 (x.2.2.1 1) (x.2.2.1 3) ln) (htok f len x.2.1.2.2.1) x.2.2).1 (cCN x.1.1 x.1.2.1 x.1.2.2 x.2.1.1 x.2.1.2.1 (x.2.2.1 1) (x.2.2.1 3) ln).2.2 (cBd f len ln (cCN x.1.1 x.1.2.1 x.1.2.2 x.2.1.1 x.2.1.2.1 (x.2.2.1 1) (x.2.2.1 3) ln) (htok f len x.2.1.2.2.1) x.2.2).2.1 (cBd f len ln (cCN x.1.1 x.1.2.1 x.1.2.2 x.2.1.1 x.2.1.2.1 (x.2.2.1 1) (x.2.2.1 3) ln) (htok f len x.2.1.2.2.1) x.2.2).2.2 := by rw [cTL, if_pos h, cTLn_eq]
theorem ln10 {f : Nat → Int32} {fr ps : Nat} {r : Int32} (h : (r = -4 ∧ ∀ w, w < 9 → A_word f fr ps w = false) ∨ ∃ w : Nat, w < 9 ∧ A_word f fr ps w = true ∧ r = nI (hmw w)) : (r = -4 ∧ ∀ w, w < 9 → A_word f fr ps w = false) ∨ (r = 0 ∧ A_word f fr ps 0 = true) ∨ (r = 1 ∧ A_word f fr ps 1 = true) ∨ (r = 2 ∧ A_word f fr ps 2 = true) ∨ (r = 3 ∧ A_word f fr ps 3 = true) ∨ (r = 5 ∧ A_word f fr ps 4 = true) ∨ (r = 6 ∧ A_word f fr ps 5 = true) ∨ (r = 7 ∧ A_word f fr ps 6 = true) ∨ (r = 8 ∧ A_word f fr ps 7 = true) ∨ (r = 4 ∧ A_word f fr ps 8 = true) := by
  rcases h with h | ⟨w, hw, hy, hr⟩
  · exact Or.inl h
  · refine Or.inr ?_
    rcases (show w = 0 ∨ w = 1 ∨ w = 2 ∨ w = 3 ∨ w = 4 ∨ w = 5 ∨ w = 6 ∨ w = 7 ∨ w = 8 by omega) with rfl | rfl | rfl | rfl | rfl | rfl | rfl | rfl | rfl
    · exact Or.inl ⟨hr, hy⟩
    · exact Or.inr (Or.inl ⟨hr, hy⟩)
    · exact Or.inr (Or.inr (Or.inl ⟨hr, hy⟩))
    · exact Or.inr (Or.inr (Or.inr (Or.inl ⟨hr, hy⟩)))
    · exact Or.inr (Or.inr (Or.inr (Or.inr (Or.inl ⟨hr, hy⟩))))
    · exact Or.inr (Or.inr (Or.inr (Or.inr (Or.inr (Or.inl ⟨hr, hy⟩)))))
    · exact Or.inr (Or.inr (Or.inr (Or.inr (Or.inr (Or.inr (Or.inl ⟨hr, hy⟩))))))
    · exact Or.inr (Or.inr (Or.inr (Or.inr (Or.inr (Or.inr (Or.inr (Or.inl ⟨hr, hy⟩)))))))
    · exact Or.inr (Or.inr (Or.inr (Or.inr (Or.inr (Or.inr (Or.inr (Or.inr ⟨hr, hy⟩)))))))
theorem cLn_uq {f : Nat → Int32} {kd : Int32} {st be w : Nat} (h1 : kd = 1) (hw : w < 9) (hy : A_word f st be w = true) : cLn f kd st be = nI w := by
  refine cLn_at h1 hw (fun v hv => ?_) hy
  cases e : A_word f st be v with
  | false => rfl
  | true => exact absurd (A_word_uniq (by omega) hw e hy) (by omega)
theorem ck_none {pl to kd : Int32} {st n1 n3 : Nat} (h4 : ¬ kd = 4) : ¬ (cCN 0 pl to kd st n1 n3 (-4)).1 = 0 ∧ nI st = (cCN 0 pl to kd st n1 n3 (-4)).2.1 := by
  have e : cBl (cBF 0 pl kd 1 st).1 (cBF 0 pl kd 1 st).2 2 st = (2, nI st) := by
    by_cases h1 : kd = 1
    · rw [cBF, if_neg h4, if_pos h1, cBl_0]
    · rw [cBF, if_neg h4, if_neg h1, cBl_0, cBl_on (by decide : ¬ (2 : Int32) = 0)]
  rw [cCN, if_pos rfl, e]
  exact ⟨show ¬ (2 : Int32) = 0 from by decide, rfl⟩
theorem ck_8y {pl to kd : Int32} {st n1 n3 : Nat} (h : n3 < 8) : cCN 0 pl to kd st n1 n3 8 = (0, pl, to) := by rw [cCN, if_neg (by decide), if_pos rfl, if_pos h]
theorem ck_8n {pl to kd : Int32} {st n1 n3 : Nat} (h : ¬ n3 < 8) : cCN 0 pl to kd st n1 n3 8 = (5, nI st, to) := by rw [cCN, if_neg (by decide), if_pos rfl, if_neg h, cBl_0]
theorem ck_py {pl to kd ln : Int32} {st n1 n3 : Nat} (hl : ¬ ln = -4 ∧ ¬ ln = 8 ∧ ln ≤ 3) (h : n1 < 4) : cCN 0 pl to kd st n1 n3 ln = (0, pl, to) := by rw [cCN, if_neg hl.1, if_neg hl.2.1, if_pos hl.2.2, if_pos h]
theorem ck_pn {pl to kd ln : Int32} {st n1 n3 : Nat} (hl : ¬ ln = -4 ∧ ¬ ln = 8 ∧ ln ≤ 3) (h : ¬ n1 < 4) : cCN 0 pl to kd st n1 n3 ln = (5, nI st, to) := by rw [cCN, if_neg hl.1, if_neg hl.2.1, if_pos hl.2.2, if_neg h, cBl_0]
theorem ck_ty {pl to kd ln : Int32} {st n1 n3 : Nat} (hl : ¬ ln = -4 ∧ ¬ ln = 8 ∧ ¬ ln ≤ 3) (h : ¬ to >>> (ln &&& 31) &&& 1 = 1) : cCN 0 pl to kd st n1 n3 ln = ((0 : Int32), pl, to ||| (1 : Int32) <<< (ln &&& 31)) := by rw [cCN, if_neg hl.1, if_neg hl.2.1, if_neg hl.2.2, if_neg h]
theorem ck_tn {pl to kd ln : Int32} {st n1 n3 : Nat} (hl : ¬ ln = -4 ∧ ¬ ln = 8 ∧ ¬ ln ≤ 3) (h : to >>> (ln &&& 31) &&& 1 = 1) : cCN 0 pl to kd st n1 n3 ln = (4, nI st, to) := by rw [cCN, if_neg hl.1, if_neg hl.2.1, if_neg hl.2.2, if_pos h, cBl_0]
-- A LINE OF THE REFERENCE, by its ends
theorem rl_no {f : Nat → Int32} {len : Nat} {ln : Int32} {x : (Int32 × Int32 × Int32) × (Int32 × Nat × Nat × Int32) × (Nat → Nat) × (Nat → Int32) × (Nat → Nat → Int32)} {u : (Nat × Nat) × Int32 × Int32 × Nat × Int32} (h : ¬ (cCN x.1.1 x.1.2.1 x.1.2.2 x.2.1.1 x.2.1.2.1 (x.2.2.1 1) (x.2.2.1 3) ln).1 = 0) (hf : ¬ u.2.2.2.1 = 0) (hw : u.2.2.2.2 = (cCN x.1.1 x.1.2.1 x.1.2.2 x.2.1.1 x.2.1.2.1 (x.2.2.1 1) (x.2.2.1 3) ln).2.1) : hSyU ((cTL f len ln x).1.1, (cTL f len ln x).1.2.1) (cTL f len ln x).2.1 u := by
  rw [cTL_no h]
  exact hSyU_C (b := ((cCN x.1.1 x.1.2.1 x.1.2.2 x.2.1.1 x.2.1.2.1 (x.2.2.1 1) (x.2.2.1 3) ln).1, (cCN x.1.1 x.1.2.1 x.1.2.2 x.2.1.1 x.2.1.2.1 (x.2.2.1 1) (x.2.2.1 3) ln).2.1)) h hf hw
theorem cMk_s {f : Nat → Int32} {len : Nat} {b : Int32 × Int32} {to : Int32} {t : Int32 × Nat × Nat × Int32} {d : (Nat → Nat) × (Nat → Int32) × (Nat → Nat → Int32)} {u : (Nat × Nat) × Int32 × Int32 × Nat × Int32} (h : hSyU (cTM f len b.1 b.2 t.1 t.2.1 t.2.2.1 t.2.2.2).1 (cTM f len b.1 b.2 t.1 t.2.1 t.2.2.1 t.2.2.2).2 u) : hSyU ((cMk f len b to t d).1.1, (cMk f len b to t d).1.2.1) (cMk f len b to t d).2.1 u := h
theorem rl_mft {f : Nat → Int32} {len : Nat} {ln : Int32} {x : (Int32 × Int32 × Int32) × (Int32 × Nat × Nat × Int32) × (Nat → Nat) × (Nat → Int32) × (Nat → Nat → Int32)} {u : (Nat × Nat) × Int32 × Int32 × Nat × Int32} (h : (cCN x.1.1 x.1.2.1 x.1.2.2 x.2.1.1 x.2.1.2.1 (x.2.2.1 1) (x.2.2.1 3) ln).1 = 0) (hof : hSyU (cBd f len ln (cCN x.1.1 x.1.2.1 x.1.2.2 x.2.1.1 x.2.1.2.1 (x.2.2.1 1) (x.2.2.1 3) ln) (htok f len x.2.1.2.2.1) x.2.2).1 (cBd f len ln (cCN x.1.1 x.1.2.1 x.1.2.2 x.2.1.1 x.2.1.2.1 (x.2.2.1 1) (x.2.2.1 3) ln) (htok f len x.2.1.2.2.1) x.2.2).2.1 u) (hf : ¬ u.2.2.2.1 = 0) : hSyU ((cTL f len ln x).1.1, (cTL f len ln x).1.2.1) (cTL f len ln x).2.1 u := by
  rw [cTL_yes h]
  exact cMk_s (hSyM_ft hof hf)
theorem rl_ft {f : Nat → Int32} {len : Nat} {ln : Int32} {x : (Int32 × Int32 × Int32) × (Int32 × Nat × Nat × Int32) × (Nat → Nat) × (Nat → Int32) × (Nat → Nat → Int32)} {u : (Nat × Nat) × Int32 × Int32 × Nat × Int32} (h : (cCN x.1.1 x.1.2.1 x.1.2.2 x.2.1.1 x.2.1.2.1 (x.2.2.1 1) (x.2.2.1 3) ln).1 = 0) (hu : hSyU ((cCN x.1.1 x.1.2.1 x.1.2.2 x.2.1.1 x.2.1.2.1 (x.2.2.1 1) (x.2.2.1 3) ln).1, (cCN x.1.1 x.1.2.1 x.1.2.2 x.2.1.1 x.2.1.2.1 (x.2.2.1 1) (x.2.2.1 3) ln).2.1) (htok f len x.2.1.2.2.1) u) (hf : ¬ u.2.2.2.1 = 0) : hSyU ((cTL f len ln x).1.1, (cTL f len ln x).1.2.1) (cTL f len ln x).2.1 u := rl_mft h (cBd_B hu hf) hf
theorem rl_m2 {f : Nat → Int32} {len : Nat} {ln : Int32} {x : (Int32 × Int32 × Int32) × (Int32 × Nat × Nat × Int32) × (Nat → Nat) × (Nat → Int32) × (Nat → Nat → Int32)} {u v : (Nat × Nat) × Int32 × Int32 × Nat × Int32} (h : (cCN x.1.1 x.1.2.1 x.1.2.2 x.2.1.1 x.2.1.2.1 (x.2.2.1 1) (x.2.2.1 3) ln).1 = 0) (hof : hSyU (cBd f len ln (cCN x.1.1 x.1.2.1 x.1.2.2 x.2.1.1 x.2.1.2.1 (x.2.2.1 1) (x.2.2.1 3) ln) (htok f len x.2.1.2.2.1) x.2.2).1 (cBd f len ln (cCN x.1.1 x.1.2.1 x.1.2.2 x.2.1.1 x.2.1.2.1 (x.2.2.1 1) (x.2.2.1 3) ln) (htok f len x.2.1.2.2.1) x.2.2).2.1 v) (h0 : v.2.2.2.1 = 0) (hs : ¬ v.2.1 = 3) (hf : ¬ u.2.2.2.1 = 0) (hw : u.2.2.2.2 = nI v.1.2) : hSyU ((cTL f len ln x).1.1, (cTL f len ln x).1.2.1) (cTL f len ln x).2.1 u := by
  have hz := hSyU_0 hof h0
  rw [cTL_yes h]
  refine cMk_s ?_
  rw [cTM_2 hz.1 hz.2.1 (fun h9 => hs (hz.2.2.2.2.1.trans h9))]
  exact hSyU_C (b := (2, nI (cBd f len ln (cCN x.1.1 x.1.2.1 x.1.2.2 x.2.1.1 x.2.1.2.1 (x.2.2.1 1) (x.2.2.1 3) ln) (htok f len x.2.1.2.2.1) x.2.2).2.1.2.1)) (show ¬ (2 : Int32) = 0 from by decide) hf (by rw [hw, hz.2.2.1])
theorem rl_m3 {f : Nat → Int32} {len : Nat} {ln : Int32} {x : (Int32 × Int32 × Int32) × (Int32 × Nat × Nat × Int32) × (Nat → Nat) × (Nat → Int32) × (Nat → Nat → Int32)} {u v : (Nat × Nat) × Int32 × Int32 × Nat × Int32} (h : (cCN x.1.1 x.1.2.1 x.1.2.2 x.2.1.1 x.2.1.2.1 (x.2.2.1 1) (x.2.2.1 3) ln).1 = 0) (hof : hSyU (cBd f len ln (cCN x.1.1 x.1.2.1 x.1.2.2 x.2.1.1 x.2.1.2.1 (x.2.2.1 1) (x.2.2.1 3) ln) (htok f len x.2.1.2.2.1) x.2.2).1 (cBd f len ln (cCN x.1.1 x.1.2.1 x.1.2.2 x.2.1.1 x.2.1.2.1 (x.2.2.1 1) (x.2.2.1 3) ln) (htok f len x.2.1.2.2.1) x.2.2).2.1 v) (h0 : v.2.2.2.1 = 0) (hs : v.2.1 = 3) (hu : ∀ pl : Int32, hSyU (0, pl) (htok f len v.1.1) u) : hSyU ((cTL f len ln x).1.1, (cTL f len ln x).1.2.1) (cTL f len ln x).2.1 u := by
  have hz := hSyU_0 hof h0
  rw [cTL_yes h]
  refine cMk_s ?_
  rw [cTM_3 hz.1 (hz.2.2.2.2.1.symm.trans hs), ← hz.2.2.2.1]
  exact hSyU_b hz.1 hu
theorem rl_dr {f : Nat → Int32} {len : Nat} {ln : Int32} {x : (Int32 × Int32 × Int32) × (Int32 × Nat × Nat × Int32) × (Nat → Nat) × (Nat → Int32) × (Nat → Nat → Int32)} (h : (cCN x.1.1 x.1.2.1 x.1.2.2 x.2.1.1 x.2.1.2.1 (x.2.2.1 1) (x.2.2.1 3) ln).1 = 0) : (cTL f len ln x).2.2 = (cBd f len ln (cCN x.1.1 x.1.2.1 x.1.2.2 x.2.1.1 x.2.1.2.1 (x.2.2.1 1) (x.2.2.1 3) ln) (htok f len x.2.1.2.2.1) x.2.2).2.2 ∧ (cTL f len ln x).1.2.2 = (cCN x.1.1 x.1.2.1 x.1.2.2 x.2.1.1 x.2.1.2.1 (x.2.2.1 1) (x.2.2.1 3) ln).2.2 := by
  rw [cTL_yes h]
  exact ⟨rfl, rfl⟩
