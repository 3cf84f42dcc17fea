/-- the reference's line of a kk, in the class's numbers -/
def hmi (kk : Int32) : Int32 := if kk = 4 then 8 else if kk = 5 then 4 else if kk = 6 then 5 else if kk = 7 then 6 else if kk = 8 then 7 else kk
/-- the class's draft (N, J, F) and the reference's (df, people, halves, the highest half of a pair) say the same -/
def rDr (N : Nat → Nat) (J : Nat → Int32) (F : Nat → Nat → Int32) (df : Nat → Int32) (dp dh : Nat) (hg : Int32) : Prop :=
  (df 0 = nI (N 0) ∧ ∀ j, j < N 0 → df (1 + j) = F 0 j) ∧ (dp = N 1 ∧ ∀ j, j < N 1 → df (9 + j) = F 1 j) ∧ (df 13 = J 0 ∧ df 14 = J 1 ∧ df 15 = J 2) ∧ dh = N 2 ∧
  (df 16 = nI (N 3) ∧ ∀ j, j < N 3 → df (17 + j) = 10 * F 2 j + F 3 j) ∧ (df 25 = nI (N 4) ∧ N 4 = 0) ∧
  ((∀ j, j < N 3 → F 2 j ≤ hg ∧ F 3 j ≤ hg) ∧ ((N 3 = 0 ∧ hg = -4) ∨ ∃ j, j < N 3 ∧ (hg = F 2 j ∨ hg = F 3 j)))
/-- a line behind its NAME, ahead of the MARK -/
def cBd (f : Nat → Int32) (len : Nat) (ln : Int32) (ck : Int32 × Int32 × Int32) (t : Int32 × Nat × Nat × Int32) (d : (Nat → Nat) × (Nat → Int32) × (Nat → Nat → Int32)) : (Int32 × Int32) × (Int32 × Nat × Nat × Int32) × (Nat → Nat) × (Nat → Int32) × (Nat → Nat → Int32) :=
  if ln = 4 then ((cTC f len (d.2.2 0) ck.1 ck.2.1 t.1 t.2.1 t.2.2.1 t.2.2.2).2.2.1, (cTC f len (d.2.2 0) ck.1 ck.2.1 t.1 t.2.1 t.2.2.1 t.2.2.2).2.2.2, ((fun j => ([(cTC f len (d.2.2 0) ck.1 ck.2.1 t.1 t.2.1 t.2.2.1 t.2.2.2).1, d.1 1, d.1 2, d.1 3, d.1 4] : List (Nat)).getD j 0), d.2.1, (fun j => ([(cTC f len (d.2.2 0) ck.1 ck.2.1 t.1 t.2.1 t.2.2.1 t.2.2.2).2.1, d.2.2 1, d.2.2 2, d.2.2 3, d.2.2 4, d.2.2 5, d.2.2 6] : List (Nat → Int32)).getD j hsz)))
  else if ln = 5 then ((cTN f len ck.1 ck.2.1 t.1 t.2.1 t.2.2.1 t.2.2.2 0 9 (-4)).2.1, (cTN f len ck.1 ck.2.1 t.1 t.2.1 t.2.2.1 t.2.2.2 0 9 (-4)).2.2, (d.1, (fun j => ([(cTN f len ck.1 ck.2.1 t.1 t.2.1 t.2.2.1 t.2.2.2 0 9 (-4)).1, d.2.1 1, d.2.1 2] : List (Int32)).getD j 0), d.2.2))
  else if ln = 6 then ((cTN f len ck.1 ck.2.1 t.1 t.2.1 t.2.2.1 t.2.2.2 0 99 (-4)).2.1, (cTN f len ck.1 ck.2.1 t.1 t.2.1 t.2.2.1 t.2.2.2 0 99 (-4)).2.2, (d.1, (fun j => ([d.2.1 0, (cTN f len ck.1 ck.2.1 t.1 t.2.1 t.2.2.1 t.2.2.2 0 99 (-4)).1, d.2.1 2] : List (Int32)).getD j 0), d.2.2))
  else if ln = 7 then ((cTN f len ck.1 ck.2.1 t.1 t.2.1 t.2.2.1 t.2.2.2 2 5 (-4)).2.1, (cTN f len ck.1 ck.2.1 t.1 t.2.1 t.2.2.1 t.2.2.2 2 5 (-4)).2.2, ((fun j => ([d.1 0, d.1 1, (cTN f len ck.1 ck.2.1 t.1 t.2.1 t.2.2.1 t.2.2.2 2 5 (-4)).1.toNatClampNeg, d.1 3, d.1 4] : List (Nat)).getD j 0), d.2.1, d.2.2))
  else if ln = 8 then ((cTP f len ck.1 ck.2.1 t.1 t.2.1 t.2.2.1 t.2.2.2).2.2.1, (cTP f len ck.1 ck.2.1 t.1 t.2.1 t.2.2.1 t.2.2.2).2.2.2, ((fun j => ([d.1 0, d.1 1, d.1 2, d.1 3 + 1, d.1 4] : List (Nat)).getD j 0), d.2.1, (fun j => ([d.2.2 0, d.2.2 1, upd (d.2.2 2) (nI (d.1 3)).toNatClampNeg (cTP f len ck.1 ck.2.1 t.1 t.2.1 t.2.2.1 t.2.2.2).1, upd (d.2.2 3) (nI (d.1 3)).toNatClampNeg (cTP f len ck.1 ck.2.1 t.1 t.2.1 t.2.2.1 t.2.2.2).2.1, d.2.2 4, d.2.2 5, d.2.2 6] : List (Nat → Int32)).getD j hsz)))
  else ((ck.1, ck.2.1), t, ((fun j => ([d.1 0, d.1 1 + 1, d.1 2, d.1 3, d.1 4] : List (Nat)).getD j 0), d.2.1, (fun j => ([d.2.2 0, upd (d.2.2 1) (nI (d.1 1)).toNatClampNeg ln, d.2.2 2, d.2.2 3, d.2.2 4, d.2.2 5, d.2.2 6] : List (Nat → Int32)).getD j hsz)))
theorem cTLn_eq {f : Nat → Int32} {len : Nat} {ln : Int32} {ck : Int32 × Int32 × Int32} {t : Int32 × Nat × Nat × Int32} {d : (Nat → Nat) × (Nat → Int32) × (Nat → Nat → Int32)} : cTLn f len ln ck t d = cMk f len (cBd f len ln ck t d).1 ck.2.2 (cBd f len ln ck t d).2.1 (cBd f len ln ck t d).2.2 := by
  unfold cTLn cBd
  by_cases h4 : ln = 4
  · rw [if_pos h4, if_pos h4]
  · rw [if_neg h4, if_neg h4]
    by_cases h5 : ln = 5
    · rw [if_pos h5, if_pos h5]
    · rw [if_neg h5, if_neg h5]
      by_cases h6 : ln = 6
      · rw [if_pos h6, if_pos h6]
      · rw [if_neg h6, if_neg h6]
        by_cases h7 : ln = 7
        · rw [if_pos h7, if_pos h7]
        · rw [if_neg h7, if_neg h7]
          by_cases h8 : ln = 8
          · rw [if_pos h8, if_pos h8]
          · rw [if_neg h8, if_neg h8]
theorem rDr_person {N : Nat → Nat} {J : Nat → Int32} {F : Nat → Nat → Int32} {df : Nat → Int32} {dp dh : Nat} {hg kk : Int32} (h : rDr N J F df dp dh hg) (h8 : N 0 ≤ 8) (h4 : dp < 4) : rDr (fun j => ([N 0, N 1 + 1, N 2, N 3, N 4] : List (Nat)).getD j 0) J (fun j => ([F 0, upd (F 1) (nI (N 1)).toNatClampNeg kk, F 2, F 3, F 4, F 5, F 6] : List (Nat → Int32)).getD j hsz) (upd df (nI (9 + dp)).toNatClampNeg kk) (dp + 1) dh hg := by
  obtain ⟨⟨a1, a2⟩, ⟨b1, b2⟩, ⟨c1, c2, c3⟩, d1, ⟨e1, e2⟩, ⟨f1, f2⟩, g1⟩ := h
  subst b1
  refine ⟨⟨?_, ?_⟩, ⟨rfl, ?_⟩, ⟨?_, ?_, ?_⟩, d1, ⟨?_, ?_⟩, ⟨?_, f2⟩, g1⟩
  · rw [hs_uc (by omega) (by omega)]; exact a1
  · intro j hj
    have hj2 : j < N 0 := hj
    rw [hs_uc (by omega) (by omega)]
    exact a2 j hj2
  · intro j hj
    by_cases e : j = N 1
    · subst e
      show upd df (nI (9 + N 1)).toNatClampNeg kk (9 + N 1) = upd (F 1) (nI (N 1)).toNatClampNeg kk (N 1)
      rw [hs_ue (by omega) rfl, hs_ue (by omega) rfl]
    · show upd df (nI (9 + N 1)).toNatClampNeg kk (9 + j) = upd (F 1) (nI (N 1)).toNatClampNeg kk j
      have hj2 : j < N 1 + 1 := hj
      rw [hs_uc (by omega) (by omega), hs_uc (by omega) e]
      exact b2 j (by omega)
  · rw [hs_uc (by omega) (by omega)]; exact c1
  · rw [hs_uc (by omega) (by omega)]; exact c2
  · rw [hs_uc (by omega) (by omega)]; exact c3
  · rw [hs_uc (by omega) (by omega)]; exact e1
  · intro j hj
    rw [hs_uc (by omega) (by omega)]
    exact e2 j hj
  · rw [hs_uc (by omega) (by omega)]; exact f1
theorem rDr_slip {N : Nat → Nat} {J : Nat → Int32} {F : Nat → Nat → Int32} {df : Nat → Int32} {dp dh : Nat} {hg v : Int32} (h : rDr N J F df dp dh hg) (h8 : N 0 ≤ 8) (h4 : N 1 ≤ 4) : rDr N (fun j => ([v, J 1, J 2] : List (Int32)).getD j 0) F (upd df 13 v) dp dh hg := by
  obtain ⟨⟨a1, a2⟩, ⟨b1, b2⟩, ⟨c1, c2, c3⟩, d1, ⟨e1, e2⟩, ⟨f1, f2⟩, g1⟩ := h
  exact ⟨⟨(hs_un (by omega)).trans a1, fun j hj => (hs_un (by omega)).trans (a2 j hj)⟩, ⟨b1, fun j hj => (hs_un (by omega)).trans (b2 j hj)⟩, ⟨hs_uq rfl, (hs_un (by omega)).trans c2, (hs_un (by omega)).trans c3⟩, d1, ⟨(hs_un (by omega)).trans e1, fun j hj => (hs_un (by omega)).trans (e2 j hj)⟩, ⟨(hs_un (by omega)).trans f1, f2⟩, g1⟩
theorem rDr_fine {N : Nat → Nat} {J : Nat → Int32} {F : Nat → Nat → Int32} {df : Nat → Int32} {dp dh : Nat} {hg v : Int32} (h : rDr N J F df dp dh hg) (h8 : N 0 ≤ 8) (h4 : N 1 ≤ 4) : rDr N (fun j => ([J 0, v, J 2] : List (Int32)).getD j 0) F (upd df 14 v) dp dh hg := by
  obtain ⟨⟨a1, a2⟩, ⟨b1, b2⟩, ⟨c1, c2, c3⟩, d1, ⟨e1, e2⟩, ⟨f1, f2⟩, g1⟩ := h
  exact ⟨⟨(hs_un (by omega)).trans a1, fun j hj => (hs_un (by omega)).trans (a2 j hj)⟩, ⟨b1, fun j hj => (hs_un (by omega)).trans (b2 j hj)⟩, ⟨(hs_un (by omega)).trans c1, hs_uq rfl, (hs_un (by omega)).trans c3⟩, d1, ⟨(hs_un (by omega)).trans e1, fun j hj => (hs_un (by omega)).trans (e2 j hj)⟩, ⟨(hs_un (by omega)).trans f1, f2⟩, g1⟩
theorem rDr_case {N : Nat → Nat} {J : Nat → Int32} {F : Nat → Nat → Int32} {df : Nat → Int32} {dp dh v : Nat} {hg : Int32} (h : rDr N J F df dp dh hg) : rDr (fun j => ([N 0, N 1, v, N 3, N 4] : List (Nat)).getD j 0) J F df dp v hg := by
  obtain ⟨a, b, c, -, e, f, g⟩ := h
  exact ⟨a, b, c, rfl, e, f, g⟩
theorem rDr_thing {N : Nat → Nat} {J : Nat → Int32} {F : Nat → Nat → Int32} {df dg w : Nat → Int32} {dp dh c : Nat} {hg : Int32} (h : rDr N J F df dp dh hg) (hk : ∀ q, 9 ≤ q → dg q = df q) (e0 : dg 0 = nI c) (hw : ∀ j, j < c → dg (1 + j) = w j) : rDr (fun j => ([c, N 1, N 2, N 3, N 4] : List (Nat)).getD j 0) J (fun j => ([w, F 1, F 2, F 3, F 4, F 5, F 6] : List (Nat → Int32)).getD j hsz) dg dp dh hg := by
  obtain ⟨-, ⟨b1, b2⟩, ⟨c1, c2, c3⟩, d1, ⟨e1, e2⟩, ⟨f1, f2⟩, g1⟩ := h
  exact ⟨⟨e0, hw⟩, ⟨b1, fun j hj => (hk _ (by omega)).trans (b2 j hj)⟩, ⟨(hk _ (by omega)).trans c1, (hk _ (by omega)).trans c2, (hk _ (by omega)).trans c3⟩, d1, ⟨(hk _ (by omega)).trans e1, fun j hj => (hk _ (by omega)).trans (e2 j hj)⟩, ⟨(hk _ (by omega)).trans f1, f2⟩, g1⟩
theorem hMx_l {x y : Int32} : x ≤ hMx x y := by
  unfold hMx
  by_cases h : x ≤ y
  · rw [if_pos h]; exact h
  · rw [if_neg h, Int32.le_iff_toInt_le]; omega
theorem hMx_r {x y : Int32} : y ≤ hMx x y := by
  unfold hMx
  by_cases h : x ≤ y
  · rw [if_pos h, Int32.le_iff_toInt_le]; omega
  · rw [if_neg h]
    rw [Int32.le_iff_toInt_le] at h ⊢
    omega
theorem hs_le_tr {x y z : Int32} (h1 : x ≤ y) (h2 : y ≤ z) : x ≤ z := by
  rw [Int32.le_iff_toInt_le] at h1 h2 ⊢
  omega
theorem hs_ten (a b : Nat) : 10 * nI a + nI b = nI (10 * a + b) := by
  rw [← nI_add (10 * a) b, ← pk_mul 10 a]
  rfl
theorem rDr_pair {N : Nat → Nat} {J : Nat → Int32} {F : Nat → Nat → Int32} {df : Nat → Int32} {dp dh a b : Nat} {hg : Int32} (h : rDr N J F df dp dh hg) (h8 : N 0 ≤ 8) (h4 : N 1 ≤ 4) (h3 : N 3 < 8) (ha : a ≤ 4) (hb : b ≤ 4) : rDr (fun j => ([N 0, N 1, N 2, N 3 + 1, N 4] : List (Nat)).getD j 0) J (fun j => ([F 0, F 1, upd (F 2) (nI (N 3)).toNatClampNeg (nI a), upd (F 3) (nI (N 3)).toNatClampNeg (nI b), F 4, F 5, F 6] : List (Nat → Int32)).getD j hsz) (upd (upd df (nI (17 + N 3)).toNatClampNeg (nI (10 * a + b))) 16 (nI (N 3 + 1))) dp dh (hMx (nI b) (hMx (nI a) hg)) := by
  obtain ⟨⟨a1, a2⟩, ⟨b1, b2⟩, ⟨c1, c2, c3⟩, d1, ⟨e1, e2⟩, ⟨f1, f2⟩, g1, g2⟩ := h
  have o : ∀ q, ¬ q = 16 → ¬ q = 17 + N 3 → upd (upd df (nI (17 + N 3)).toNatClampNeg (nI (10 * a + b))) 16 (nI (N 3 + 1)) q = df q := fun q q1 q2 => (hs_un q1).trans (hs_uc (by omega) q2)
  have n2 : ∀ j, ¬ j = N 3 → upd (F 2) (nI (N 3)).toNatClampNeg (nI a) j = F 2 j := fun j hj => hs_uc (by omega) hj
  have n3 : ∀ j, ¬ j = N 3 → upd (F 3) (nI (N 3)).toNatClampNeg (nI b) j = F 3 j := fun j hj => hs_uc (by omega) hj
  have m2 : upd (F 2) (nI (N 3)).toNatClampNeg (nI a) (N 3) = nI a := hs_ue (by omega) rfl
  have m3 : upd (F 3) (nI (N 3)).toNatClampNeg (nI b) (N 3) = nI b := hs_ue (by omega) rfl
  refine ⟨⟨(o 0 (by omega) (by omega)).trans a1, fun j hj => ?_⟩, ⟨b1, fun j hj => ?_⟩, ⟨(o 13 (by omega) (by omega)).trans c1, (o 14 (by omega) (by omega)).trans c2, (o 15 (by omega) (by omega)).trans c3⟩, d1, ⟨hs_uq rfl, fun j hj => ?_⟩, ⟨(o 25 (by omega) (by omega)).trans f1, f2⟩, fun j hj => ?_, Or.inr ?_⟩
  · have hj2 : j < N 0 := hj
    exact (o (1 + j) (by omega) (by omega)).trans (a2 j hj2)
  · have hj2 : j < N 1 := hj
    exact (o (9 + j) (by omega) (by omega)).trans (b2 j hj2)
  · have hj2 : j < N 3 + 1 := hj
    show upd (upd df (nI (17 + N 3)).toNatClampNeg (nI (10 * a + b))) 16 (nI (N 3 + 1)) (17 + j) = 10 * upd (F 2) (nI (N 3)).toNatClampNeg (nI a) j + upd (F 3) (nI (N 3)).toNatClampNeg (nI b) j
    by_cases e : j = N 3
    · subst e
      rw [m2, m3, hs_un (by omega), hs_ue (by omega) rfl, hs_ten]
    · rw [o (17 + j) (by omega) (by omega), n2 j e, n3 j e]
      exact e2 j (by omega)
  · have hj2 : j < N 3 + 1 := hj
    show upd (F 2) (nI (N 3)).toNatClampNeg (nI a) j ≤ _ ∧ upd (F 3) (nI (N 3)).toNatClampNeg (nI b) j ≤ _
    by_cases e : j = N 3
    · subst e
      rw [m2, m3]
      exact ⟨hs_le_tr hMx_l hMx_r, hMx_l⟩
    · rw [n2 j e, n3 j e]
      have g3 := g1 j (by omega)
      exact ⟨hs_le_tr g3.1 (hs_le_tr hMx_r hMx_r), hs_le_tr g3.2 (hs_le_tr hMx_r hMx_r)⟩
  · show ∃ j, j < N 3 + 1 ∧ (hMx (nI b) (hMx (nI a) hg) = upd (F 2) (nI (N 3)).toNatClampNeg (nI a) j ∨ hMx (nI b) (hMx (nI a) hg) = upd (F 3) (nI (N 3)).toNatClampNeg (nI b) j)
    by_cases h1 : nI b ≤ hMx (nI a) hg
    · by_cases h2 : nI a ≤ hg
      · have e1 : hMx (nI a) hg = hg := if_pos h2
        rw [e1] at h1
        have e2 : hMx (nI b) (hMx (nI a) hg) = hg := by rw [e1]; exact if_pos h1
        rw [e2]
        rcases g2 with ⟨_, g4⟩ | ⟨j, hj, g4⟩
        · rw [g4, Int32.le_iff_toInt_le, nI_toInt (by omega)] at h2
          have z : (-4 : Int32).toInt = -4 := by decide
          omega
        · exact ⟨j, by omega, by rw [n2 j (by omega), n3 j (by omega)]; exact g4⟩
      · have e1 : hMx (nI a) hg = nI a := if_neg h2
        rw [e1] at h1
        have e2 : hMx (nI b) (hMx (nI a) hg) = nI a := by rw [e1]; exact if_pos h1
        rw [e2]
        exact ⟨N 3, by omega, Or.inl m2.symm⟩
    · have e2 : hMx (nI b) (hMx (nI a) hg) = nI b := if_neg h1
      rw [e2]
      exact ⟨N 3, by omega, Or.inr m3.symm⟩

theorem cBd_h4 {f : Nat → Int32} {len : Nat} {ln : Int32} {ck : Int32 × Int32 × Int32} {t : Int32 × Nat × Nat × Int32} {d : (Nat → Nat) × (Nat → Int32) × (Nat → Nat → Int32)} (h : ln = 4)  : cBd f len ln ck t d = ((cTC f len (d.2.2 0) ck.1 ck.2.1 t.1 t.2.1 t.2.2.1 t.2.2.2).2.2.1, (cTC f len (d.2.2 0) ck.1 ck.2.1 t.1 t.2.1 t.2.2.1 t.2.2.2).2.2.2, ((fun j => ([(cTC f len (d.2.2 0) ck.1 ck.2.1 t.1 t.2.1 t.2.2.1 t.2.2.2).1, d.1 1, d.1 2, d.1 3, d.1 4] : List (Nat)).getD j 0), d.2.1, (fun j => ([(cTC f len (d.2.2 0) ck.1 ck.2.1 t.1 t.2.1 t.2.2.1 t.2.2.2).2.1, d.2.2 1, d.2.2 2, d.2.2 3, d.2.2 4, d.2.2 5, d.2.2 6] : List (Nat → Int32)).getD j hsz))) := by
  rw [h]
  unfold cBd
  rw [if_pos rfl]
theorem cBd_h5 {f : Nat → Int32} {len : Nat} {ln : Int32} {ck : Int32 × Int32 × Int32} {t : Int32 × Nat × Nat × Int32} {d : (Nat → Nat) × (Nat → Int32) × (Nat → Nat → Int32)} (h : ln = 5)  : cBd f len ln ck t d = ((cTN f len ck.1 ck.2.1 t.1 t.2.1 t.2.2.1 t.2.2.2 0 9 (-4)).2.1, (cTN f len ck.1 ck.2.1 t.1 t.2.1 t.2.2.1 t.2.2.2 0 9 (-4)).2.2, (d.1, (fun j => ([(cTN f len ck.1 ck.2.1 t.1 t.2.1 t.2.2.1 t.2.2.2 0 9 (-4)).1, d.2.1 1, d.2.1 2] : List (Int32)).getD j 0), d.2.2)) := by
  rw [h]
  unfold cBd
  rw [if_neg (show ¬ (5 : Int32) = 4 by decide), if_pos rfl]
theorem cBd_h6 {f : Nat → Int32} {len : Nat} {ln : Int32} {ck : Int32 × Int32 × Int32} {t : Int32 × Nat × Nat × Int32} {d : (Nat → Nat) × (Nat → Int32) × (Nat → Nat → Int32)} (h : ln = 6)  : cBd f len ln ck t d = ((cTN f len ck.1 ck.2.1 t.1 t.2.1 t.2.2.1 t.2.2.2 0 99 (-4)).2.1, (cTN f len ck.1 ck.2.1 t.1 t.2.1 t.2.2.1 t.2.2.2 0 99 (-4)).2.2, (d.1, (fun j => ([d.2.1 0, (cTN f len ck.1 ck.2.1 t.1 t.2.1 t.2.2.1 t.2.2.2 0 99 (-4)).1, d.2.1 2] : List (Int32)).getD j 0), d.2.2)) := by
  rw [h]
  unfold cBd
  rw [if_neg (show ¬ (6 : Int32) = 4 by decide), if_neg (show ¬ (6 : Int32) = 5 by decide), if_pos rfl]
theorem cBd_h7 {f : Nat → Int32} {len : Nat} {ln : Int32} {ck : Int32 × Int32 × Int32} {t : Int32 × Nat × Nat × Int32} {d : (Nat → Nat) × (Nat → Int32) × (Nat → Nat → Int32)} (h : ln = 7)  : cBd f len ln ck t d = ((cTN f len ck.1 ck.2.1 t.1 t.2.1 t.2.2.1 t.2.2.2 2 5 (-4)).2.1, (cTN f len ck.1 ck.2.1 t.1 t.2.1 t.2.2.1 t.2.2.2 2 5 (-4)).2.2, ((fun j => ([d.1 0, d.1 1, (cTN f len ck.1 ck.2.1 t.1 t.2.1 t.2.2.1 t.2.2.2 2 5 (-4)).1.toNatClampNeg, d.1 3, d.1 4] : List (Nat)).getD j 0), d.2.1, d.2.2)) := by
  rw [h]
  unfold cBd
  rw [if_neg (show ¬ (7 : Int32) = 4 by decide), if_neg (show ¬ (7 : Int32) = 5 by decide), if_neg (show ¬ (7 : Int32) = 6 by decide), if_pos rfl]
theorem cBd_h8 {f : Nat → Int32} {len : Nat} {ln : Int32} {ck : Int32 × Int32 × Int32} {t : Int32 × Nat × Nat × Int32} {d : (Nat → Nat) × (Nat → Int32) × (Nat → Nat → Int32)} (h : ln = 8)  : cBd f len ln ck t d = ((cTP f len ck.1 ck.2.1 t.1 t.2.1 t.2.2.1 t.2.2.2).2.2.1, (cTP f len ck.1 ck.2.1 t.1 t.2.1 t.2.2.1 t.2.2.2).2.2.2, ((fun j => ([d.1 0, d.1 1, d.1 2, d.1 3 + 1, d.1 4] : List (Nat)).getD j 0), d.2.1, (fun j => ([d.2.2 0, d.2.2 1, upd (d.2.2 2) (nI (d.1 3)).toNatClampNeg (cTP f len ck.1 ck.2.1 t.1 t.2.1 t.2.2.1 t.2.2.2).1, upd (d.2.2 3) (nI (d.1 3)).toNatClampNeg (cTP f len ck.1 ck.2.1 t.1 t.2.1 t.2.2.1 t.2.2.2).2.1, d.2.2 4, d.2.2 5, d.2.2 6] : List (Nat → Int32)).getD j hsz))) := by
  rw [h]
  unfold cBd
  rw [if_neg (show ¬ (8 : Int32) = 4 by decide), if_neg (show ¬ (8 : Int32) = 5 by decide), if_neg (show ¬ (8 : Int32) = 6 by decide), if_neg (show ¬ (8 : Int32) = 7 by decide), if_pos rfl]
theorem cBd_hp {f : Nat → Int32} {len : Nat} {ln : Int32} {ck : Int32 × Int32 × Int32} {t : Int32 × Nat × Nat × Int32} {d : (Nat → Nat) × (Nat → Int32) × (Nat → Nat → Int32)} (v : Int32) (h : ln = v) (h4 : ¬ v = 4) (h5 : ¬ v = 5) (h6 : ¬ v = 6) (h7 : ¬ v = 7) (h8 : ¬ v = 8) : cBd f len ln ck t d = ((ck.1, ck.2.1), t, ((fun j => ([d.1 0, d.1 1 + 1, d.1 2, d.1 3, d.1 4] : List (Nat)).getD j 0), d.2.1, (fun j => ([d.2.2 0, upd (d.2.2 1) (nI (d.1 1)).toNatClampNeg v, d.2.2 2, d.2.2 3, d.2.2 4, d.2.2 5, d.2.2 6] : List (Nat → Int32)).getD j hsz))) := by
  rw [h]
  unfold cBd
  rw [if_neg h4, if_neg h5, if_neg h6, if_neg h7, if_neg h8]
set_option maxHeartbeats 4000000 in
set_option maxRecDepth 100000 in
theorem gr_readLineOf (l : Launch) (D : va_G) (k : Nat → ClassId) (sz : Nat) (mo : Nat) (mo_st : Nat) (mo_at : Nat) (mo_isKept : Nat) (mo_pe : Nat) (mo_hm : Nat) (mo_draft : Nat) (mo_dp : Nat) (mo_dh : Nat) (mo_toldLines : Int32) (mo_highest : Int32) (mo_tape : Nat) (mo_tl : Nat) (mo_ps : Nat) (mo_fr : Nat) (mo_sort : Int32) (mo_value : Int32) (mo_ft : Nat) (mo_wrongAt : Int32) (mo_row : Nat) (mo_orderMany : Int32) (mo_fo : Nat) (mo_lightest : Int32) (mo_heaviest : Int32) (mo_before : Nat) (mo_justSum : Int64) (mo_toldSum : Int64) (mo_allWays : Int64) (mo_lanes : Nat) (mo_sizes : Nat) (mo_cells : Nat) (mo_torn : Int32) (mo_had : Nat) (tf : Nat → Int32) (df : Nat → Int32) (kk : Int32) (fm : Int32) (pl : Int32) (kd : Int32) (st : Nat) (be : Nat) (va : Int32) (d_N : Nat → Nat) (d_J : Nat → Int32) (d_F : Nat → Nat → Int32) (to : Int32) (ht : mo_tl ≤ 160) (hps : mo_ps ≤ mo_tl) (hfr : mo_fr ≤ 160) (hft : mo_ft ≤ 7) (hby : ∀ q, q < mo_tl → ¬ tf q < 0) (hdr : drS df) (hdp : mo_dp ≤ 4) (hdh : mo_dh ≤ 5 ∧ 2 ≤ mo_dh) (hfp : mo_ft = 0 → (mo_fr ≤ mo_ps ∧ (mo_sort = 0 ∨ mo_fr < mo_ps))) (hk : kk = 0 ∨ kk = 1 ∨ kk = 2 ∨ kk = 3 ∨ kk = 4 ∨ kk = 5 ∨ kk = 6 ∨ kk = 7 ∨ kk = 8) (hk4 : kk = 4 → d_N 3 < 8) (hkp : kk.toInt ≤ 3 → mo_dp < 4) (hN0 : thN d_N) (hrd : rDr d_N d_J d_F df mo_dp mo_dh mo_highest) (hsy : hSy fm pl kd st be va mo_ft mo_wrongAt mo_sort mo_fr mo_ps mo_value) : MV l yX8_readLineOf wsX8_readLineOf ({ frames := 4, cells := 0, slots := 0, locals := 92 }) D k [.ref mo, .int kk] [oq7 mo mo_st mo_at mo_isKept (nI mo_pe) (nI mo_hm) mo_draft (nI mo_dp) (nI mo_dh) mo_toldLines mo_highest mo_tape (nI mo_tl) (nI mo_ps) (nI mo_fr) mo_sort mo_value (nI mo_ft) mo_wrongAt mo_row mo_orderMany (nI mo_fo) mo_lightest mo_heaviest mo_before mo_justSum mo_toldSum mo_allWays mo_lanes mo_sizes mo_cells mo_torn mo_had, oqI k mo_tape 160 (tf), oqI k mo_draft 44 (df)] sz (fun (u : ((Nat × Nat) × Int32 × Int32 × Nat × Int32) × (Nat → Int32) × Int32 × Nat × Nat) => ((u.1.1.1 ≤ mo_tl ∧ u.1.1.2 ≤ 160 ∧ u.1.2.2.2.1 ≤ 7 ∧ (u.1.2.2.2.1 = 0 → (mo_ft = 0 ∧ mo_fr ≤ u.1.1.2 ∧ u.1.1.2 ≤ u.1.1.1 ∧ (u.1.2.1 = 0 ∨ u.1.1.2 < u.1.1.1)))) ∧ drS u.2.1 ∧ u.2.2.2.1 ≤ 4 ∧ u.2.2.2.2 ≤ 5 ∧ (u.1.2.2.2.1 = 0 → 2 ≤ u.2.2.2.2)) ∧ hSyU (cBd tf mo_tl (hmi kk) (fm, pl, to) (kd, st, be, va) (d_N, d_J, d_F)).1 (cBd tf mo_tl (hmi kk) (fm, pl, to) (kd, st, be, va) (d_N, d_J, d_F)).2.1 u.1 ∧ (u.1.2.2.2.1 = 0 → rDr (cBd tf mo_tl (hmi kk) (fm, pl, to) (kd, st, be, va) (d_N, d_J, d_F)).2.2.1 (cBd tf mo_tl (hmi kk) (fm, pl, to) (kd, st, be, va) (d_N, d_J, d_F)).2.2.2.1 (cBd tf mo_tl (hmi kk) (fm, pl, to) (kd, st, be, va) (d_N, d_J, d_F)).2.2.2.2 u.2.1 u.2.2.2.1 u.2.2.2.2 u.2.2.1)) (fun (u : ((Nat × Nat) × Int32 × Int32 × Nat × Int32) × (Nat → Int32) × Int32 × Nat × Nat) => [oq7 mo mo_st mo_at mo_isKept (nI mo_pe) (nI mo_hm) mo_draft (nI (u.2.2.2.1)) (nI (u.2.2.2.2)) mo_toldLines u.2.2.1 mo_tape (nI mo_tl) (nI (u.1.1.1)) (nI (u.1.1.2)) u.1.2.1 u.1.2.2.1 (nI (u.1.2.2.2.1)) u.1.2.2.2.2 mo_row mo_orderMany (nI mo_fo) mo_lightest mo_heaviest mo_before mo_justSum mo_toldSum mo_allWays mo_lanes mo_sizes mo_cells mo_torn mo_had, oqI k mo_tape 160 (tf), oqI k mo_draft 44 (u.2.1)]) := by
  refine Met.ofW (cc := cX8_readLineOf) (maxL := 2) (ret := none) hpn_X8 rfl ?_
  intro p e s m args below meth c s₁ B hml hv
  obtain ⟨rfl, hsz, hP, hK, hD0, hN⟩ := hv
  have hx := B.exec
  have hb := B.bytes
  have hr := B.returns
  have hlocks := B.notSynchronized
  have hts := atoms_spec (ws := wsX8_readLineOf) B.pre
  have hown := findClass_of_methodNamed B.named
  have hown : s.vm.findClass RX8 = some m.cls := hown
  have hiX8 : ∀ w ∈ u_ws RX8 TX8 32, w ∈ wsX8_readLineOf := fun w9 hw9 => List.mem_cons_of_mem _ (igX8 w9 hw9)
  have fl20 := hts (.fieldLink RX8 20 "HalfScalesModel" "draft" "[I") (List.mem_cons_of_mem _ (hs_inG 4 85 rfl rfl))
  have fl50 := hts (.fieldLink RX8 50 "HalfScalesModel" "dPeople" "I") (List.mem_cons_of_mem _ (hs_inG 4 86 rfl rfl))
  have fl54 := hts (.fieldLink RX8 54 "HalfScalesModel" "dHalves" "I") (List.mem_cons_of_mem _ (hs_inG 4 87 rfl rfl))
  obtain ⟨I0, I1, ⟨I2, I2b⟩, I3, I4⟩ := id hN0
  subst hsz
  have hD := hD0.self (sz := s.heap.size)
  generalize hAe : va_A [oq7 mo mo_st mo_at mo_isKept (nI mo_pe) (nI mo_hm) mo_draft (nI mo_dp) (nI mo_dh) mo_toldLines mo_highest mo_tape (nI mo_tl) (nI mo_ps) (nI mo_fr) mo_sort mo_value (nI mo_ft) mo_wrongAt mo_row mo_orderMany (nI mo_fo) mo_lightest mo_heaviest mo_before mo_justSum mo_toldSum mo_allWays mo_lanes mo_sizes mo_cells mo_torn mo_had, oqI k mo_tape 160 (tf), oqI k mo_draft 44 (df)] s.heap.size = A at hD ⊢
  have hA : ∀ q : Nat, s.heap.size ≤ q → A q := fun q h => by rw [← hAe]; exact Or.inr h
  have hS : va_S A s.heap s.heap [] := va_S.rf
  have hl := lv_entry ([.ref mo, .int kk]) (n := 2) (Nat.le_of_ble_eq_true rfl)
  rw [lg_entry_eq]
  generalize (lg_sl ([.ref mo, .int kk]) ++ List.replicate (2 - (lg_sl ([.ref mo, .int kk])).length) Slot.unset).toArray = ls at hl ⊢
  have hl : lv_has ls 2 [(0, .ref mo), (1, .int kk)] := hl
  have hP : va_P D vwCl [oq7 mo mo_st mo_at mo_isKept (nI mo_pe) (nI mo_hm) mo_draft (nI mo_dp) (nI mo_dh) mo_toldLines mo_highest mo_tape (nI mo_tl) (nI mo_ps) (nI mo_fr) mo_sort mo_value (nI mo_ft) mo_wrongAt mo_row mo_orderMany (nI mo_fo) mo_lightest mo_heaviest mo_before mo_justSum mo_toldSum mo_allWays mo_lanes mo_sizes mo_cells mo_torn mo_had, oqI k mo_tape 160 (tf), oqI k mo_draft 44 (df)] s.heap := hP
  rcases hk with rfl | rfl | rfl | rfl | rfl | rfl | rfl | rfl | rfl
  · refine lv_iload_n hx hb dX8_readLineOf_0 rfl (lv_at hl 1 rfl) ?_
    refine lv_tableOut (tgt := 97) hx hb dX8_readLineOf_1 (by decide) (by decide) ?_
    have hkpa := hkp (by decide)
    refine lv_aload_n hx hb dX8_readLineOf_97 rfl (lv_at hl 0 rfl) ?_
    refine va_get (D := D) (ci := 7) (v := .ref mo_draft) (C := RX8) (T := TX8) (N := 32) hx hb hts hiX8 hown hK hP 0 rfl rfl 5 (Nat.le_of_ble_eq_true rfl) fl20 (fun _ h9 => h9) rfl dX8_readLineOf_98 ?_
    refine lv_bipush (v := 9) hx hb dX8_readLineOf_101 hkb_9 ?_
    refine lv_aload_n hx hb dX8_readLineOf_103 rfl (lv_at hl 0 rfl) ?_
    refine va_get (D := D) (ci := 7) (v := .int (nI mo_dp)) (C := RX8) (T := TX8) (N := 32) hx hb hts hiX8 hown hK hP 0 rfl rfl 6 (Nat.le_of_ble_eq_true rfl) fl50 (fun _ h9 => h9) rfl dX8_readLineOf_104 ?_
    refine lv_iadd hx hb dX8_readLineOf_107 ?_
    refine hs_topi (nI (9 + mo_dp)) (nI_add (9) (mo_dp)) ?_
    refine lv_iload_n hx hb dX8_readLineOf_108 rfl (lv_at hl 1 rfl) ?_
    refine va_iast hx hb hK hP hD hS 2 0 rfl rfl (vp_in_nI (show (9 + mo_dp) < 44 by omega) (by decide)) dX8_readLineOf_109 (fun H locs hP hD hS => ?_)
    have hP : va_P D vwCl [oq7 mo mo_st mo_at mo_isKept (nI mo_pe) (nI mo_hm) mo_draft (nI mo_dp) (nI mo_dh) mo_toldLines mo_highest mo_tape (nI mo_tl) (nI mo_ps) (nI mo_fr) mo_sort mo_value (nI mo_ft) mo_wrongAt mo_row mo_orderMany (nI mo_fo) mo_lightest mo_heaviest mo_before mo_justSum mo_toldSum mo_allWays mo_lanes mo_sizes mo_cells mo_torn mo_had, oqI k mo_tape 160 (tf), oqI k mo_draft 44 (upd df ((nI (9 + mo_dp)).toNatClampNeg) 0)] H := hP
    have hD : va_D A [oq7 mo mo_st mo_at mo_isKept (nI mo_pe) (nI mo_hm) mo_draft (nI mo_dp) (nI mo_dh) mo_toldLines mo_highest mo_tape (nI mo_tl) (nI mo_ps) (nI mo_fr) mo_sort mo_value (nI mo_ft) mo_wrongAt mo_row mo_orderMany (nI mo_fo) mo_lightest mo_heaviest mo_before mo_justSum mo_toldSum mo_allWays mo_lanes mo_sizes mo_cells mo_torn mo_had, oqI k mo_tape 160 (tf), oqI k mo_draft 44 (upd df ((nI (9 + mo_dp)).toNatClampNeg) 0)] := hD
    refine lv_aload_n hx hb dX8_readLineOf_110 rfl (lv_at hl 0 rfl) ?_
    refine lv_dup hx hb dX8_readLineOf_111 rfl ?_
    refine va_get (D := D) (ci := 7) (v := .int (nI mo_dp)) (C := RX8) (T := TX8) (N := 32) hx hb hts hiX8 hown hK hP 0 rfl rfl 6 (Nat.le_of_ble_eq_true rfl) fl50 (fun _ h9 => h9) rfl dX8_readLineOf_112 ?_
    refine lv_iconst (v := 1) hx hb dX8_readLineOf_115 hki_1 ?_
    refine lv_iadd hx hb dX8_readLineOf_116 ?_
    refine hs_topi (nI (mo_dp + 1)) (nI_add (mo_dp) (1)) ?_
    refine va_put (D := D) (ci := 7) (v := .int (nI (mo_dp + 1))) (ty := .int) (C := RX8) (T := TX8) (N := 32) hx hb hts hiX8 tyX8 tyX8_ok nmX8 hown hK hP hD hS 0 rfl rfl 6 (Nat.le_of_ble_eq_true rfl) fl50 (fun _ h9 => h9) rfl (by decide +kernel) rfl rfl (Nat.le_of_ble_eq_true rfl) dX8_readLineOf_117 (fun H locs hP hD hS => ?_)
    have hP : va_P D vwCl [oq7 mo mo_st mo_at mo_isKept (nI mo_pe) (nI mo_hm) mo_draft (nI (mo_dp + 1)) (nI mo_dh) mo_toldLines mo_highest mo_tape (nI mo_tl) (nI mo_ps) (nI mo_fr) mo_sort mo_value (nI mo_ft) mo_wrongAt mo_row mo_orderMany (nI mo_fo) mo_lightest mo_heaviest mo_before mo_justSum mo_toldSum mo_allWays mo_lanes mo_sizes mo_cells mo_torn mo_had, _, _] H := hP
    have hD : va_D A [oq7 mo mo_st mo_at mo_isKept (nI mo_pe) (nI mo_hm) mo_draft (nI (mo_dp + 1)) (nI mo_dh) mo_toldLines mo_highest mo_tape (nI mo_tl) (nI mo_ps) (nI mo_fr) mo_sort mo_value (nI mo_ft) mo_wrongAt mo_row mo_orderMany (nI mo_fo) mo_lightest mo_heaviest mo_before mo_justSum mo_toldSum mo_allWays mo_lanes mo_sizes mo_cells mo_torn mo_had, _, _] := hD
    exact hs_vret hx hb hr hlocks hK hP hD hS (((mo_ps, mo_fr), mo_sort, mo_value, mo_ft, mo_wrongAt), upd df ((nI (9 + mo_dp)).toNatClampNeg) 0, mo_highest, mo_dp + 1, mo_dh) [0, 1, 2] rfl (hs_upnd rfl) dX8_readLineOf_120 (by dsimp only; rw [cBd_hp 0 (show hmi 0 = 0 by decide) (by decide) (by decide) (by decide) (by decide) (by decide)]; dsimp only; exact ⟨⟨⟨by (try dsimp only); omega, by (try dsimp only); omega, by (try dsimp only); omega, fun h => ⟨h, Nat.le_refl _, hfp h⟩⟩, drS_q hdr (fun q hq => hs_uc (by omega) (by omega)), by (try dsimp only); omega, by (try dsimp only); omega, fun h => by (try dsimp only at h ⊢); omega⟩, hsy, fun h => rDr_person hrd I0 (by omega)⟩)
  · refine lv_iload_n hx hb dX8_readLineOf_0 rfl (lv_at hl 1 rfl) ?_
    refine lv_tableOut (tgt := 97) hx hb dX8_readLineOf_1 (by decide) (by decide) ?_
    have hkpa := hkp (by decide)
    refine lv_aload_n hx hb dX8_readLineOf_97 rfl (lv_at hl 0 rfl) ?_
    refine va_get (D := D) (ci := 7) (v := .ref mo_draft) (C := RX8) (T := TX8) (N := 32) hx hb hts hiX8 hown hK hP 0 rfl rfl 5 (Nat.le_of_ble_eq_true rfl) fl20 (fun _ h9 => h9) rfl dX8_readLineOf_98 ?_
    refine lv_bipush (v := 9) hx hb dX8_readLineOf_101 hkb_9 ?_
    refine lv_aload_n hx hb dX8_readLineOf_103 rfl (lv_at hl 0 rfl) ?_
    refine va_get (D := D) (ci := 7) (v := .int (nI mo_dp)) (C := RX8) (T := TX8) (N := 32) hx hb hts hiX8 hown hK hP 0 rfl rfl 6 (Nat.le_of_ble_eq_true rfl) fl50 (fun _ h9 => h9) rfl dX8_readLineOf_104 ?_
    refine lv_iadd hx hb dX8_readLineOf_107 ?_
    refine hs_topi (nI (9 + mo_dp)) (nI_add (9) (mo_dp)) ?_
    refine lv_iload_n hx hb dX8_readLineOf_108 rfl (lv_at hl 1 rfl) ?_
    refine va_iast hx hb hK hP hD hS 2 0 rfl rfl (vp_in_nI (show (9 + mo_dp) < 44 by omega) (by decide)) dX8_readLineOf_109 (fun H locs hP hD hS => ?_)
    have hP : va_P D vwCl [oq7 mo mo_st mo_at mo_isKept (nI mo_pe) (nI mo_hm) mo_draft (nI mo_dp) (nI mo_dh) mo_toldLines mo_highest mo_tape (nI mo_tl) (nI mo_ps) (nI mo_fr) mo_sort mo_value (nI mo_ft) mo_wrongAt mo_row mo_orderMany (nI mo_fo) mo_lightest mo_heaviest mo_before mo_justSum mo_toldSum mo_allWays mo_lanes mo_sizes mo_cells mo_torn mo_had, _, oqI k mo_draft 44 (upd df ((nI (9 + mo_dp)).toNatClampNeg) 1)] H := hP
    have hD : va_D A [oq7 mo mo_st mo_at mo_isKept (nI mo_pe) (nI mo_hm) mo_draft (nI mo_dp) (nI mo_dh) mo_toldLines mo_highest mo_tape (nI mo_tl) (nI mo_ps) (nI mo_fr) mo_sort mo_value (nI mo_ft) mo_wrongAt mo_row mo_orderMany (nI mo_fo) mo_lightest mo_heaviest mo_before mo_justSum mo_toldSum mo_allWays mo_lanes mo_sizes mo_cells mo_torn mo_had, _, oqI k mo_draft 44 (upd df ((nI (9 + mo_dp)).toNatClampNeg) 1)] := hD
    refine lv_aload_n hx hb dX8_readLineOf_110 rfl (lv_at hl 0 rfl) ?_
    refine lv_dup hx hb dX8_readLineOf_111 rfl ?_
    refine va_get (D := D) (ci := 7) (v := .int (nI mo_dp)) (C := RX8) (T := TX8) (N := 32) hx hb hts hiX8 hown hK hP 0 rfl rfl 6 (Nat.le_of_ble_eq_true rfl) fl50 (fun _ h9 => h9) rfl dX8_readLineOf_112 ?_
    refine lv_iconst (v := 1) hx hb dX8_readLineOf_115 hki_1 ?_
    refine lv_iadd hx hb dX8_readLineOf_116 ?_
    refine hs_topi (nI (mo_dp + 1)) (nI_add (mo_dp) (1)) ?_
    refine va_put (D := D) (ci := 7) (v := .int (nI (mo_dp + 1))) (ty := .int) (C := RX8) (T := TX8) (N := 32) hx hb hts hiX8 tyX8 tyX8_ok nmX8 hown hK hP hD hS 0 rfl rfl 6 (Nat.le_of_ble_eq_true rfl) fl50 (fun _ h9 => h9) rfl (by decide +kernel) rfl rfl (Nat.le_of_ble_eq_true rfl) dX8_readLineOf_117 (fun H locs hP hD hS => ?_)
    have hP : va_P D vwCl [oq7 mo mo_st mo_at mo_isKept (nI mo_pe) (nI mo_hm) mo_draft (nI (mo_dp + 1)) (nI mo_dh) mo_toldLines mo_highest mo_tape (nI mo_tl) (nI mo_ps) (nI mo_fr) mo_sort mo_value (nI mo_ft) mo_wrongAt mo_row mo_orderMany (nI mo_fo) mo_lightest mo_heaviest mo_before mo_justSum mo_toldSum mo_allWays mo_lanes mo_sizes mo_cells mo_torn mo_had, _, _] H := hP
    have hD : va_D A [oq7 mo mo_st mo_at mo_isKept (nI mo_pe) (nI mo_hm) mo_draft (nI (mo_dp + 1)) (nI mo_dh) mo_toldLines mo_highest mo_tape (nI mo_tl) (nI mo_ps) (nI mo_fr) mo_sort mo_value (nI mo_ft) mo_wrongAt mo_row mo_orderMany (nI mo_fo) mo_lightest mo_heaviest mo_before mo_justSum mo_toldSum mo_allWays mo_lanes mo_sizes mo_cells mo_torn mo_had, _, _] := hD
    exact hs_vret hx hb hr hlocks hK hP hD hS (((mo_ps, mo_fr), mo_sort, mo_value, mo_ft, mo_wrongAt), upd df ((nI (9 + mo_dp)).toNatClampNeg) 1, mo_highest, mo_dp + 1, mo_dh) [0, 1, 2] rfl (hs_upnd rfl) dX8_readLineOf_120 (by dsimp only; rw [cBd_hp 1 (show hmi 1 = 1 by decide) (by decide) (by decide) (by decide) (by decide) (by decide)]; dsimp only; exact ⟨⟨⟨by (try dsimp only); omega, by (try dsimp only); omega, by (try dsimp only); omega, fun h => ⟨h, Nat.le_refl _, hfp h⟩⟩, drS_q hdr (fun q hq => hs_uc (by omega) (by omega)), by (try dsimp only); omega, by (try dsimp only); omega, fun h => by (try dsimp only at h ⊢); omega⟩, hsy, fun h => rDr_person hrd I0 (by omega)⟩)
  · refine lv_iload_n hx hb dX8_readLineOf_0 rfl (lv_at hl 1 rfl) ?_
    refine lv_tableOut (tgt := 97) hx hb dX8_readLineOf_1 (by decide) (by decide) ?_
    have hkpa := hkp (by decide)
    refine lv_aload_n hx hb dX8_readLineOf_97 rfl (lv_at hl 0 rfl) ?_
    refine va_get (D := D) (ci := 7) (v := .ref mo_draft) (C := RX8) (T := TX8) (N := 32) hx hb hts hiX8 hown hK hP 0 rfl rfl 5 (Nat.le_of_ble_eq_true rfl) fl20 (fun _ h9 => h9) rfl dX8_readLineOf_98 ?_
    refine lv_bipush (v := 9) hx hb dX8_readLineOf_101 hkb_9 ?_
    refine lv_aload_n hx hb dX8_readLineOf_103 rfl (lv_at hl 0 rfl) ?_
    refine va_get (D := D) (ci := 7) (v := .int (nI mo_dp)) (C := RX8) (T := TX8) (N := 32) hx hb hts hiX8 hown hK hP 0 rfl rfl 6 (Nat.le_of_ble_eq_true rfl) fl50 (fun _ h9 => h9) rfl dX8_readLineOf_104 ?_
    refine lv_iadd hx hb dX8_readLineOf_107 ?_
    refine hs_topi (nI (9 + mo_dp)) (nI_add (9) (mo_dp)) ?_
    refine lv_iload_n hx hb dX8_readLineOf_108 rfl (lv_at hl 1 rfl) ?_
    refine va_iast hx hb hK hP hD hS 2 0 rfl rfl (vp_in_nI (show (9 + mo_dp) < 44 by omega) (by decide)) dX8_readLineOf_109 (fun H locs hP hD hS => ?_)
    have hP : va_P D vwCl [oq7 mo mo_st mo_at mo_isKept (nI mo_pe) (nI mo_hm) mo_draft (nI mo_dp) (nI mo_dh) mo_toldLines mo_highest mo_tape (nI mo_tl) (nI mo_ps) (nI mo_fr) mo_sort mo_value (nI mo_ft) mo_wrongAt mo_row mo_orderMany (nI mo_fo) mo_lightest mo_heaviest mo_before mo_justSum mo_toldSum mo_allWays mo_lanes mo_sizes mo_cells mo_torn mo_had, _, oqI k mo_draft 44 (upd df ((nI (9 + mo_dp)).toNatClampNeg) 2)] H := hP
    have hD : va_D A [oq7 mo mo_st mo_at mo_isKept (nI mo_pe) (nI mo_hm) mo_draft (nI mo_dp) (nI mo_dh) mo_toldLines mo_highest mo_tape (nI mo_tl) (nI mo_ps) (nI mo_fr) mo_sort mo_value (nI mo_ft) mo_wrongAt mo_row mo_orderMany (nI mo_fo) mo_lightest mo_heaviest mo_before mo_justSum mo_toldSum mo_allWays mo_lanes mo_sizes mo_cells mo_torn mo_had, _, oqI k mo_draft 44 (upd df ((nI (9 + mo_dp)).toNatClampNeg) 2)] := hD
    refine lv_aload_n hx hb dX8_readLineOf_110 rfl (lv_at hl 0 rfl) ?_
    refine lv_dup hx hb dX8_readLineOf_111 rfl ?_
    refine va_get (D := D) (ci := 7) (v := .int (nI mo_dp)) (C := RX8) (T := TX8) (N := 32) hx hb hts hiX8 hown hK hP 0 rfl rfl 6 (Nat.le_of_ble_eq_true rfl) fl50 (fun _ h9 => h9) rfl dX8_readLineOf_112 ?_
    refine lv_iconst (v := 1) hx hb dX8_readLineOf_115 hki_1 ?_
    refine lv_iadd hx hb dX8_readLineOf_116 ?_
    refine hs_topi (nI (mo_dp + 1)) (nI_add (mo_dp) (1)) ?_
    refine va_put (D := D) (ci := 7) (v := .int (nI (mo_dp + 1))) (ty := .int) (C := RX8) (T := TX8) (N := 32) hx hb hts hiX8 tyX8 tyX8_ok nmX8 hown hK hP hD hS 0 rfl rfl 6 (Nat.le_of_ble_eq_true rfl) fl50 (fun _ h9 => h9) rfl (by decide +kernel) rfl rfl (Nat.le_of_ble_eq_true rfl) dX8_readLineOf_117 (fun H locs hP hD hS => ?_)
    have hP : va_P D vwCl [oq7 mo mo_st mo_at mo_isKept (nI mo_pe) (nI mo_hm) mo_draft (nI (mo_dp + 1)) (nI mo_dh) mo_toldLines mo_highest mo_tape (nI mo_tl) (nI mo_ps) (nI mo_fr) mo_sort mo_value (nI mo_ft) mo_wrongAt mo_row mo_orderMany (nI mo_fo) mo_lightest mo_heaviest mo_before mo_justSum mo_toldSum mo_allWays mo_lanes mo_sizes mo_cells mo_torn mo_had, _, _] H := hP
    have hD : va_D A [oq7 mo mo_st mo_at mo_isKept (nI mo_pe) (nI mo_hm) mo_draft (nI (mo_dp + 1)) (nI mo_dh) mo_toldLines mo_highest mo_tape (nI mo_tl) (nI mo_ps) (nI mo_fr) mo_sort mo_value (nI mo_ft) mo_wrongAt mo_row mo_orderMany (nI mo_fo) mo_lightest mo_heaviest mo_before mo_justSum mo_toldSum mo_allWays mo_lanes mo_sizes mo_cells mo_torn mo_had, _, _] := hD
    exact hs_vret hx hb hr hlocks hK hP hD hS (((mo_ps, mo_fr), mo_sort, mo_value, mo_ft, mo_wrongAt), upd df ((nI (9 + mo_dp)).toNatClampNeg) 2, mo_highest, mo_dp + 1, mo_dh) [0, 1, 2] rfl (hs_upnd rfl) dX8_readLineOf_120 (by dsimp only; rw [cBd_hp 2 (show hmi 2 = 2 by decide) (by decide) (by decide) (by decide) (by decide) (by decide)]; dsimp only; exact ⟨⟨⟨by (try dsimp only); omega, by (try dsimp only); omega, by (try dsimp only); omega, fun h => ⟨h, Nat.le_refl _, hfp h⟩⟩, drS_q hdr (fun q hq => hs_uc (by omega) (by omega)), by (try dsimp only); omega, by (try dsimp only); omega, fun h => by (try dsimp only at h ⊢); omega⟩, hsy, fun h => rDr_person hrd I0 (by omega)⟩)
  · refine lv_iload_n hx hb dX8_readLineOf_0 rfl (lv_at hl 1 rfl) ?_
    refine lv_tableOut (tgt := 97) hx hb dX8_readLineOf_1 (by decide) (by decide) ?_
    have hkpa := hkp (by decide)
    refine lv_aload_n hx hb dX8_readLineOf_97 rfl (lv_at hl 0 rfl) ?_
    refine va_get (D := D) (ci := 7) (v := .ref mo_draft) (C := RX8) (T := TX8) (N := 32) hx hb hts hiX8 hown hK hP 0 rfl rfl 5 (Nat.le_of_ble_eq_true rfl) fl20 (fun _ h9 => h9) rfl dX8_readLineOf_98 ?_
    refine lv_bipush (v := 9) hx hb dX8_readLineOf_101 hkb_9 ?_
    refine lv_aload_n hx hb dX8_readLineOf_103 rfl (lv_at hl 0 rfl) ?_
    refine va_get (D := D) (ci := 7) (v := .int (nI mo_dp)) (C := RX8) (T := TX8) (N := 32) hx hb hts hiX8 hown hK hP 0 rfl rfl 6 (Nat.le_of_ble_eq_true rfl) fl50 (fun _ h9 => h9) rfl dX8_readLineOf_104 ?_
    refine lv_iadd hx hb dX8_readLineOf_107 ?_
    refine hs_topi (nI (9 + mo_dp)) (nI_add (9) (mo_dp)) ?_
    refine lv_iload_n hx hb dX8_readLineOf_108 rfl (lv_at hl 1 rfl) ?_
    refine va_iast hx hb hK hP hD hS 2 0 rfl rfl (vp_in_nI (show (9 + mo_dp) < 44 by omega) (by decide)) dX8_readLineOf_109 (fun H locs hP hD hS => ?_)
    have hP : va_P D vwCl [oq7 mo mo_st mo_at mo_isKept (nI mo_pe) (nI mo_hm) mo_draft (nI mo_dp) (nI mo_dh) mo_toldLines mo_highest mo_tape (nI mo_tl) (nI mo_ps) (nI mo_fr) mo_sort mo_value (nI mo_ft) mo_wrongAt mo_row mo_orderMany (nI mo_fo) mo_lightest mo_heaviest mo_before mo_justSum mo_toldSum mo_allWays mo_lanes mo_sizes mo_cells mo_torn mo_had, _, oqI k mo_draft 44 (upd df ((nI (9 + mo_dp)).toNatClampNeg) 3)] H := hP
    have hD : va_D A [oq7 mo mo_st mo_at mo_isKept (nI mo_pe) (nI mo_hm) mo_draft (nI mo_dp) (nI mo_dh) mo_toldLines mo_highest mo_tape (nI mo_tl) (nI mo_ps) (nI mo_fr) mo_sort mo_value (nI mo_ft) mo_wrongAt mo_row mo_orderMany (nI mo_fo) mo_lightest mo_heaviest mo_before mo_justSum mo_toldSum mo_allWays mo_lanes mo_sizes mo_cells mo_torn mo_had, _, oqI k mo_draft 44 (upd df ((nI (9 + mo_dp)).toNatClampNeg) 3)] := hD
    refine lv_aload_n hx hb dX8_readLineOf_110 rfl (lv_at hl 0 rfl) ?_
    refine lv_dup hx hb dX8_readLineOf_111 rfl ?_
    refine va_get (D := D) (ci := 7) (v := .int (nI mo_dp)) (C := RX8) (T := TX8) (N := 32) hx hb hts hiX8 hown hK hP 0 rfl rfl 6 (Nat.le_of_ble_eq_true rfl) fl50 (fun _ h9 => h9) rfl dX8_readLineOf_112 ?_
    refine lv_iconst (v := 1) hx hb dX8_readLineOf_115 hki_1 ?_
    refine lv_iadd hx hb dX8_readLineOf_116 ?_
    refine hs_topi (nI (mo_dp + 1)) (nI_add (mo_dp) (1)) ?_
    refine va_put (D := D) (ci := 7) (v := .int (nI (mo_dp + 1))) (ty := .int) (C := RX8) (T := TX8) (N := 32) hx hb hts hiX8 tyX8 tyX8_ok nmX8 hown hK hP hD hS 0 rfl rfl 6 (Nat.le_of_ble_eq_true rfl) fl50 (fun _ h9 => h9) rfl (by decide +kernel) rfl rfl (Nat.le_of_ble_eq_true rfl) dX8_readLineOf_117 (fun H locs hP hD hS => ?_)
    have hP : va_P D vwCl [oq7 mo mo_st mo_at mo_isKept (nI mo_pe) (nI mo_hm) mo_draft (nI (mo_dp + 1)) (nI mo_dh) mo_toldLines mo_highest mo_tape (nI mo_tl) (nI mo_ps) (nI mo_fr) mo_sort mo_value (nI mo_ft) mo_wrongAt mo_row mo_orderMany (nI mo_fo) mo_lightest mo_heaviest mo_before mo_justSum mo_toldSum mo_allWays mo_lanes mo_sizes mo_cells mo_torn mo_had, _, _] H := hP
    have hD : va_D A [oq7 mo mo_st mo_at mo_isKept (nI mo_pe) (nI mo_hm) mo_draft (nI (mo_dp + 1)) (nI mo_dh) mo_toldLines mo_highest mo_tape (nI mo_tl) (nI mo_ps) (nI mo_fr) mo_sort mo_value (nI mo_ft) mo_wrongAt mo_row mo_orderMany (nI mo_fo) mo_lightest mo_heaviest mo_before mo_justSum mo_toldSum mo_allWays mo_lanes mo_sizes mo_cells mo_torn mo_had, _, _] := hD
    exact hs_vret hx hb hr hlocks hK hP hD hS (((mo_ps, mo_fr), mo_sort, mo_value, mo_ft, mo_wrongAt), upd df ((nI (9 + mo_dp)).toNatClampNeg) 3, mo_highest, mo_dp + 1, mo_dh) [0, 1, 2] rfl (hs_upnd rfl) dX8_readLineOf_120 (by dsimp only; rw [cBd_hp 3 (show hmi 3 = 3 by decide) (by decide) (by decide) (by decide) (by decide) (by decide)]; dsimp only; exact ⟨⟨⟨by (try dsimp only); omega, by (try dsimp only); omega, by (try dsimp only); omega, fun h => ⟨h, Nat.le_refl _, hfp h⟩⟩, drS_q hdr (fun q hq => hs_uc (by omega) (by omega)), by (try dsimp only); omega, by (try dsimp only); omega, fun h => by (try dsimp only at h ⊢); omega⟩, hsy, fun h => rDr_person hrd I0 (by omega)⟩)
  · refine lv_iload_n hx hb dX8_readLineOf_0 rfl (lv_at hl 1 rfl) ?_
    refine lv_tableIn (off := 35) (tgt := 36) hx hb dX8_readLineOf_1 (by decide) (by decide) (by rfl) (by decide) ?_
    have hk4a := hk4 rfl
    refine lv_aload_n hx hb dX8_readLineOf_36 rfl (lv_at hl 0 rfl) ?_
    refine hs_cvM (va_runV (As := []) (rest := []) ⟨hx, hb, hml, hown, hts⟩ (gr_readLighter l D k _ mo mo_st mo_at mo_isKept mo_pe mo_hm mo_draft mo_dp mo_dh mo_toldLines mo_highest mo_tape mo_tl mo_ps mo_fr mo_sort mo_value mo_ft mo_wrongAt mo_row mo_orderMany mo_fo mo_lightest mo_heaviest mo_before mo_justSum mo_toldSum mo_allWays mo_lanes mo_sizes mo_cells mo_torn mo_had tf df (d_N 3) fm pl kd st be va (by omega) (by omega) (by omega) (by omega) hby hrd.2.2.2.2.1.1 (by omega) hsy) (cwV 0 hts gX8_readLineOf_X8_readLighter rfl rfl rfl ⟨rfl, hq_X8_readLighter⟩ ⟨Nat.le_of_ble_eq_true rfl, Nat.le_of_ble_eq_true rfl⟩) (hs_preV hK hN (hs_subP (w := [_, _, _]) hP [0, 1, 2] rfl) (hD.sub (ws' := [_, _, _]) [0, 1, 2] (hs_upnd rfl) rfl) (ci := 7) (q0 := 0) rfl rfl) rfl rfl hl.1 rfl (lv_room (Nat.le_of_ble_eq_true rfl)) dX8_readLineOf_37 ⟨Nat.le_of_ble_eq_true rfl, Nat.le_of_ble_eq_true rfl⟩) hP hD hS hA [false, false, false] [] [_, _, _] rfl [0, 1, 2] rfl [0, 1, 2] (fun u_3 => [_, _, _]) (fun _ => rfl) (hs_upnd rfl) [false, false, false] (fun u_3 => [_, _, _]) (fun _ => rfl) (fun u_3 H locs hw_2 hP hD hS => ?_)
    have hw_2 : ((u_3.1.1.1 ≤ mo_tl ∧ u_3.1.1.2 ≤ 160 ∧ u_3.1.2.2.2.1 ≤ 7 ∧ (u_3.1.2.2.2.1 = 0 → (mo_ft = 0 ∧ mo_ps ≤ u_3.1.1.2 ∧ u_3.1.1.2 ≤ u_3.1.1.1 ∧ (u_3.1.2.1 = 0 ∨ u_3.1.1.2 < u_3.1.1.1)))) ∧ (∃ d : Nat, u_3.2.1 16 = nI d ∧ d ≤ 8) ∧ ∀ q, ¬ (16 ≤ q ∧ q ≤ 24) → u_3.2.1 q = df q) ∧ hSyU (cTP tf mo_tl fm pl kd st be va).2.2.1 (cTP tf mo_tl fm pl kd st be va).2.2.2 u_3.1 ∧ (u_3.1.2.2.2.1 = 0 → ∃ a b : Nat, a ≤ 4 ∧ b ≤ 4 ∧ (cTP tf mo_tl fm pl kd st be va).1 = nI a ∧ (cTP tf mo_tl fm pl kd st be va).2.1 = nI b ∧ u_3.2.1 = upd (upd df (nI (17 + (d_N 3))).toNatClampNeg (nI (10 * a + b))) 16 (nI ((d_N 3) + 1)) ∧ u_3.2.2 = hMx (nI b) (hMx (nI a) mo_highest)) := hw_2
    refine lv_goto (tgt := 120) hx hb dX8_readLineOf_40 rfl ?_
    exact hs_vret hx hb hr hlocks hK hP hD hS (((u_3.1.1.1, u_3.1.1.2), u_3.1.2.1, u_3.1.2.2.1, u_3.1.2.2.2.1, u_3.1.2.2.2.2), u_3.2.1, u_3.2.2, mo_dp, mo_dh) [0, 1, 2] rfl (hs_upnd rfl) dX8_readLineOf_120 (by dsimp only; rw [cBd_h8 (show hmi 4 = 8 by decide)]; dsimp only; exact ⟨⟨⟨by (try dsimp only); omega, by (try dsimp only); omega, by (try dsimp only); omega, fun h => by (try dsimp only at h); have a0 := hw_2.1.1.2.2.2 h; have b0 := hfp a0.1; exact ⟨by omega, by (try dsimp only); omega, by (try dsimp only); omega, by (try dsimp only); first | exact a0.2.2.2.2 | exact a0.2.2.2⟩⟩, drS_li hdr hw_2.1.2.1 hw_2.1.2.2, by (try dsimp only); omega, by (try dsimp only); omega, fun h => by (try dsimp only at h ⊢); have a0 := hw_2.1.1.2.2.2 h; omega⟩, hw_2.2.1, fun h => (by obtain ⟨a, b, ha, hb, e1, e2, e3, e4⟩ := hw_2.2.2 h; (try dsimp only); show rDr (fun j => ([d_N 0, d_N 1, d_N 2, d_N 3 + 1, d_N 4] : List (Nat)).getD j 0) d_J (fun j => ([d_F 0, d_F 1, upd (d_F 2) (nI (d_N 3)).toNatClampNeg (cTP tf mo_tl fm pl kd st be va).1, upd (d_F 3) (nI (d_N 3)).toNatClampNeg (cTP tf mo_tl fm pl kd st be va).2.1, d_F 4, d_F 5, d_F 6] : List (Nat → Int32)).getD j hsz) _ _ _ _; rw [e1, e2, e3, e4]; exact rDr_pair hrd (by omega) (by omega) (by omega) ha hb)⟩)
  · refine lv_iload_n hx hb dX8_readLineOf_0 rfl (lv_at hl 1 rfl) ?_
    refine lv_tableIn (off := 42) (tgt := 43) hx hb dX8_readLineOf_1 (by decide) (by decide) (by rfl) (by decide) ?_
    refine lv_aload_n hx hb dX8_readLineOf_43 rfl (lv_at hl 0 rfl) ?_
    refine hs_cvM (va_runV (As := []) (rest := []) ⟨hx, hb, hml, hown, hts⟩ (gr_readThing l D k _ mo mo_st mo_at mo_isKept mo_pe mo_hm mo_draft mo_dp mo_dh mo_toldLines mo_highest mo_tape mo_tl mo_ps mo_fr mo_sort mo_value mo_ft mo_wrongAt mo_row mo_orderMany mo_fo mo_lightest mo_heaviest mo_before mo_justSum mo_toldSum mo_allWays mo_lanes mo_sizes mo_cells mo_torn mo_had tf df fm pl kd st be va (d_F 0) (by omega) (by omega) (by omega) (by omega) hby hsy) (cwV 0 hts gX8_readLineOf_X8_readThing rfl rfl rfl ⟨rfl, hq_X8_readThing⟩ ⟨Nat.le_of_ble_eq_true rfl, Nat.le_of_ble_eq_true rfl⟩) (hs_preV hK hN (hs_subP (w := [_, _, _]) hP [0, 1, 2] rfl) (hD.sub (ws' := [_, _, _]) [0, 1, 2] (hs_upnd rfl) rfl) (ci := 7) (q0 := 0) rfl rfl) rfl rfl hl.1 rfl (lv_room (Nat.le_of_ble_eq_true rfl)) dX8_readLineOf_44 ⟨Nat.le_of_ble_eq_true rfl, Nat.le_of_ble_eq_true rfl⟩) hP hD hS hA [false, false, false] [] [_, _, _] rfl [0, 1, 2] rfl [0, 1, 2] (fun u_6 => [_, _, _]) (fun _ => rfl) (hs_upnd rfl) [false, false, false] (fun u_6 => [_, _, _]) (fun _ => rfl) (fun u_6 H locs hw_5 hP hD hS => ?_)
    have hw_5 : ((u_6.1.1.1 ≤ mo_tl ∧ u_6.1.1.2 ≤ 160 ∧ u_6.1.2.2.2.1 ≤ 7 ∧ (u_6.1.2.2.2.1 = 0 → (mo_ft = 0 ∧ mo_ps ≤ u_6.1.1.2 ∧ u_6.1.1.2 ≤ u_6.1.1.1 ∧ (u_6.1.2.1 = 0 ∨ u_6.1.1.2 < u_6.1.1.1)))) ∧ (∃ cx : Nat, u_6.2 0 = nI cx ∧ 2 ≤ cx ∧ cx ≤ 8) ∧ ∀ q, 9 ≤ q → u_6.2 q = df q) ∧ hSyU (cTC tf mo_tl (d_F 0) fm pl kd st be va).2.2.1 (cTC tf mo_tl (d_F 0) fm pl kd st be va).2.2.2 u_6.1 ∧ (u_6.1.2.2.2.1 = 0 → (u_6.2 0 = nI (cTC tf mo_tl (d_F 0) fm pl kd st be va).1 ∧ 2 ≤ (cTC tf mo_tl (d_F 0) fm pl kd st be va).1 ∧ ∀ j, j < (cTC tf mo_tl (d_F 0) fm pl kd st be va).1 → u_6.2 (1 + j) = (cTC tf mo_tl (d_F 0) fm pl kd st be va).2.1 j)) := hw_5
    refine lv_goto (tgt := 120) hx hb dX8_readLineOf_47 rfl ?_
    exact hs_vret hx hb hr hlocks hK hP hD hS (((u_6.1.1.1, u_6.1.1.2), u_6.1.2.1, u_6.1.2.2.1, u_6.1.2.2.2.1, u_6.1.2.2.2.2), u_6.2, mo_highest, mo_dp, mo_dh) [0, 1, 2] rfl (hs_upnd rfl) dX8_readLineOf_120 (by dsimp only; rw [cBd_h4 (show hmi 5 = 4 by decide)]; dsimp only; exact ⟨⟨⟨by (try dsimp only); omega, by (try dsimp only); omega, by (try dsimp only); omega, fun h => by (try dsimp only at h); have a0 := hw_5.1.1.2.2.2 h; have b0 := hfp a0.1; exact ⟨by omega, by (try dsimp only); omega, by (try dsimp only); omega, by (try dsimp only); first | exact a0.2.2.2.2 | exact a0.2.2.2⟩⟩, drS_th hdr hw_5.1.2.1 hw_5.1.2.2, by (try dsimp only); omega, by (try dsimp only); omega, fun h => by (try dsimp only at h ⊢); have a0 := hw_5.1.1.2.2.2 h; omega⟩, hw_5.2.1, fun h => rDr_thing hrd hw_5.1.2.2 (hw_5.2.2 h).1 (hw_5.2.2 h).2.2⟩)
  · refine lv_iload_n hx hb dX8_readLineOf_0 rfl (lv_at hl 1 rfl) ?_
    refine lv_tableIn (off := 49) (tgt := 50) hx hb dX8_readLineOf_1 (by decide) (by decide) (by rfl) (by decide) ?_
    refine lv_aload_n hx hb dX8_readLineOf_50 rfl (lv_at hl 0 rfl) ?_
    refine va_get (D := D) (ci := 7) (v := .ref mo_draft) (C := RX8) (T := TX8) (N := 32) hx hb hts hiX8 hown hK hP 0 rfl rfl 5 (Nat.le_of_ble_eq_true rfl) fl20 (fun _ h9 => h9) rfl dX8_readLineOf_51 ?_
    refine lv_bipush (v := 13) hx hb dX8_readLineOf_54 hkb_13 ?_
    refine lv_aload_n hx hb dX8_readLineOf_56 rfl (lv_at hl 0 rfl) ?_
    refine lv_iconst (v := 0) hx hb dX8_readLineOf_57 hki_0 ?_
    refine lv_bipush (v := 9) hx hb dX8_readLineOf_58 hkb_9 ?_
    refine hs_ciM (va_runV (As := [.int 0, .int 9]) (rest := [.int 13, .ref mo_draft]) ⟨hx, hb, hml, hown, hts⟩ (gr_readNumber l D k _ mo mo_st mo_at mo_isKept mo_pe mo_hm mo_draft mo_dp mo_dh mo_toldLines mo_highest mo_tape mo_tl mo_ps mo_fr mo_sort mo_value mo_ft mo_wrongAt mo_row mo_orderMany mo_fo mo_lightest mo_heaviest mo_before mo_justSum mo_toldSum mo_allWays mo_lanes mo_sizes mo_cells mo_torn mo_had tf 0 9 fm pl kd st be va (by omega) (by omega) (by omega) (by omega) hby (by omega) (by omega) hsy) (cwV 2 hts gX8_readLineOf_X8_readNumber rfl rfl rfl ⟨rfl, hq_X8_readNumber⟩ ⟨Nat.le_of_ble_eq_true rfl, Nat.le_of_ble_eq_true rfl⟩) (hs_preV hK hN (hs_subP (w := [_, _]) hP [0, 1] rfl) (hD.sub (ws' := [_, _]) [0, 1] (hs_upnd rfl) rfl) (ci := 7) (q0 := 0) rfl rfl) rfl rfl hl.1 rfl (lv_room (Nat.le_of_ble_eq_true rfl)) dX8_readLineOf_60 ⟨Nat.le_of_ble_eq_true rfl, Nat.le_of_ble_eq_true rfl⟩) hP hD hS hA [false, false, true] [_] [_, _] rfl [0, 1] rfl [0, 1] (fun u_9 => [_, _]) (fun _ => rfl) (hs_upnd rfl) [false, false, true] (fun u_9 => [_, _, _]) (fun _ => rfl) (fun r_7 u_9 H locs hw_8 hP hD hS => ?_)
    have hw_8 : r_7 = nI u_9.1 ∧ (u_9.1 ≤ 9 ∧ (u_9.2.2.2.2.1 = 0 → (mo_ft = 0 ∧ 0 ≤ u_9.1 ∧ mo_ps ≤ u_9.2.1.2 ∧ u_9.2.1.2 ≤ u_9.2.1.1 ∧ (u_9.2.2.1 = 0 ∨ u_9.2.1.2 < u_9.2.1.1))) ∧ u_9.2.1.1 ≤ mo_tl ∧ u_9.2.1.2 ≤ 160 ∧ u_9.2.2.2.2.1 ≤ 7) ∧ hSyU (cTN tf mo_tl fm pl kd st be va 0 9 (-4)).2.1 (cTN tf mo_tl fm pl kd st be va 0 9 (-4)).2.2 u_9.2 ∧ ((cTN tf mo_tl fm pl kd st be va 0 9 (-4)).2.1.1 = 0 → nI u_9.1 = (cTN tf mo_tl fm pl kd st be va 0 9 (-4)).1) := hw_8
    refine hs_topi (nI (u_9.1)) hw_8.1 ?_
    refine va_iast hx hb hK hP hD hS 2 0 rfl rfl (hs_in (by decide)) dX8_readLineOf_63 (fun H locs hP hD hS => ?_)
    have hP : va_P D vwCl [_, _, oqI k mo_draft 44 (upd df 13 (nI (u_9.1)))] H := hP
    have hD : va_D A [_, _, oqI k mo_draft 44 (upd df 13 (nI (u_9.1)))] := hD
    refine lv_goto (tgt := 120) hx hb dX8_readLineOf_64 rfl ?_
    exact hs_vret hx hb hr hlocks hK hP hD hS (((u_9.2.1.1, u_9.2.1.2), u_9.2.2.1, u_9.2.2.2.1, u_9.2.2.2.2.1, u_9.2.2.2.2.2), upd df 13 (nI (u_9.1)), mo_highest, mo_dp, mo_dh) [0, 1, 2] rfl (hs_upnd rfl) dX8_readLineOf_120 (by dsimp only; rw [cBd_h5 (show hmi 6 = 5 by decide)]; dsimp only; exact ⟨⟨⟨by (try dsimp only); omega, by (try dsimp only); omega, by (try dsimp only); omega, fun h => by (try dsimp only at h); have a0 := hw_8.2.1.2.1 h; have b0 := hfp a0.1; exact ⟨by omega, by (try dsimp only); omega, by (try dsimp only); omega, by (try dsimp only); first | exact a0.2.2.2.2 | exact a0.2.2.2⟩⟩, drS_q hdr (fun q hq => hs_un (by omega)), by (try dsimp only); omega, by (try dsimp only); omega, fun h => by (try dsimp only at h ⊢); have a0 := hw_8.2.1.2.1 h; omega⟩, hw_8.2.2.1, fun h => (by have e9 := hw_8.2.2.2 (hSyU_0 hw_8.2.2.1 h).1; (try dsimp only); rw [e9]; exact rDr_slip hrd I0 I1)⟩)
  · refine lv_iload_n hx hb dX8_readLineOf_0 rfl (lv_at hl 1 rfl) ?_
    refine lv_tableIn (off := 66) (tgt := 67) hx hb dX8_readLineOf_1 (by decide) (by decide) (by rfl) (by decide) ?_
    refine lv_aload_n hx hb dX8_readLineOf_67 rfl (lv_at hl 0 rfl) ?_
    refine va_get (D := D) (ci := 7) (v := .ref mo_draft) (C := RX8) (T := TX8) (N := 32) hx hb hts hiX8 hown hK hP 0 rfl rfl 5 (Nat.le_of_ble_eq_true rfl) fl20 (fun _ h9 => h9) rfl dX8_readLineOf_68 ?_
    refine lv_bipush (v := 14) hx hb dX8_readLineOf_71 hkb_14 ?_
    refine lv_aload_n hx hb dX8_readLineOf_73 rfl (lv_at hl 0 rfl) ?_
    refine lv_iconst (v := 0) hx hb dX8_readLineOf_74 hki_0 ?_
    refine lv_bipush (v := 99) hx hb dX8_readLineOf_75 hkb_99 ?_
    refine hs_ciM (va_runV (As := [.int 0, .int 99]) (rest := [.int 14, .ref mo_draft]) ⟨hx, hb, hml, hown, hts⟩ (gr_readNumber l D k _ mo mo_st mo_at mo_isKept mo_pe mo_hm mo_draft mo_dp mo_dh mo_toldLines mo_highest mo_tape mo_tl mo_ps mo_fr mo_sort mo_value mo_ft mo_wrongAt mo_row mo_orderMany mo_fo mo_lightest mo_heaviest mo_before mo_justSum mo_toldSum mo_allWays mo_lanes mo_sizes mo_cells mo_torn mo_had tf 0 99 fm pl kd st be va (by omega) (by omega) (by omega) (by omega) hby (by omega) (by omega) hsy) (cwV 2 hts gX8_readLineOf_X8_readNumber rfl rfl rfl ⟨rfl, hq_X8_readNumber⟩ ⟨Nat.le_of_ble_eq_true rfl, Nat.le_of_ble_eq_true rfl⟩) (hs_preV hK hN (hs_subP (w := [_, _]) hP [0, 1] rfl) (hD.sub (ws' := [_, _]) [0, 1] (hs_upnd rfl) rfl) (ci := 7) (q0 := 0) rfl rfl) rfl rfl hl.1 rfl (lv_room (Nat.le_of_ble_eq_true rfl)) dX8_readLineOf_77 ⟨Nat.le_of_ble_eq_true rfl, Nat.le_of_ble_eq_true rfl⟩) hP hD hS hA [false, false, true] [_] [_, _] rfl [0, 1] rfl [0, 1] (fun u_12 => [_, _]) (fun _ => rfl) (hs_upnd rfl) [false, false, true] (fun u_12 => [_, _, _]) (fun _ => rfl) (fun r_10 u_12 H locs hw_11 hP hD hS => ?_)
    have hw_11 : r_10 = nI u_12.1 ∧ (u_12.1 ≤ 99 ∧ (u_12.2.2.2.2.1 = 0 → (mo_ft = 0 ∧ 0 ≤ u_12.1 ∧ mo_ps ≤ u_12.2.1.2 ∧ u_12.2.1.2 ≤ u_12.2.1.1 ∧ (u_12.2.2.1 = 0 ∨ u_12.2.1.2 < u_12.2.1.1))) ∧ u_12.2.1.1 ≤ mo_tl ∧ u_12.2.1.2 ≤ 160 ∧ u_12.2.2.2.2.1 ≤ 7) ∧ hSyU (cTN tf mo_tl fm pl kd st be va 0 99 (-4)).2.1 (cTN tf mo_tl fm pl kd st be va 0 99 (-4)).2.2 u_12.2 ∧ ((cTN tf mo_tl fm pl kd st be va 0 99 (-4)).2.1.1 = 0 → nI u_12.1 = (cTN tf mo_tl fm pl kd st be va 0 99 (-4)).1) := hw_11
    refine hs_topi (nI (u_12.1)) hw_11.1 ?_
    refine va_iast hx hb hK hP hD hS 2 0 rfl rfl (hs_in (by decide)) dX8_readLineOf_80 (fun H locs hP hD hS => ?_)
    have hP : va_P D vwCl [_, _, oqI k mo_draft 44 (upd df 14 (nI (u_12.1)))] H := hP
    have hD : va_D A [_, _, oqI k mo_draft 44 (upd df 14 (nI (u_12.1)))] := hD
    refine lv_goto (tgt := 120) hx hb dX8_readLineOf_81 rfl ?_
    exact hs_vret hx hb hr hlocks hK hP hD hS (((u_12.2.1.1, u_12.2.1.2), u_12.2.2.1, u_12.2.2.2.1, u_12.2.2.2.2.1, u_12.2.2.2.2.2), upd df 14 (nI (u_12.1)), mo_highest, mo_dp, mo_dh) [0, 1, 2] rfl (hs_upnd rfl) dX8_readLineOf_120 (by dsimp only; rw [cBd_h6 (show hmi 7 = 6 by decide)]; dsimp only; exact ⟨⟨⟨by (try dsimp only); omega, by (try dsimp only); omega, by (try dsimp only); omega, fun h => by (try dsimp only at h); have a0 := hw_11.2.1.2.1 h; have b0 := hfp a0.1; exact ⟨by omega, by (try dsimp only); omega, by (try dsimp only); omega, by (try dsimp only); first | exact a0.2.2.2.2 | exact a0.2.2.2⟩⟩, drS_fi hdr ⟨_, (by (try dsimp only); exact hs_uq rfl), hw_11.2.1.1⟩ (fun q hq => hs_un hq), by (try dsimp only); omega, by (try dsimp only); omega, fun h => by (try dsimp only at h ⊢); have a0 := hw_11.2.1.2.1 h; omega⟩, hw_11.2.2.1, fun h => (by have e9 := hw_11.2.2.2 (hSyU_0 hw_11.2.2.1 h).1; (try dsimp only); rw [e9]; exact rDr_fine hrd I0 I1)⟩)
  · refine lv_iload_n hx hb dX8_readLineOf_0 rfl (lv_at hl 1 rfl) ?_
    refine lv_tableIn (off := 83) (tgt := 84) hx hb dX8_readLineOf_1 (by decide) (by decide) (by rfl) (by decide) ?_
    refine lv_aload_n hx hb dX8_readLineOf_84 rfl (lv_at hl 0 rfl) ?_
    refine lv_aload_n hx hb dX8_readLineOf_85 rfl (lv_at hl 0 rfl) ?_
    refine lv_iconst (v := 2) hx hb dX8_readLineOf_86 hki_2 ?_
    refine lv_iconst (v := 5) hx hb dX8_readLineOf_87 hki_5 ?_
    refine hs_ciM (va_runV (As := [.int 2, .int 5]) (rest := [.ref mo]) ⟨hx, hb, hml, hown, hts⟩ (gr_readNumber l D k _ mo mo_st mo_at mo_isKept mo_pe mo_hm mo_draft mo_dp mo_dh mo_toldLines mo_highest mo_tape mo_tl mo_ps mo_fr mo_sort mo_value mo_ft mo_wrongAt mo_row mo_orderMany mo_fo mo_lightest mo_heaviest mo_before mo_justSum mo_toldSum mo_allWays mo_lanes mo_sizes mo_cells mo_torn mo_had tf 2 5 fm pl kd st be va (by omega) (by omega) (by omega) (by omega) hby (by omega) (by omega) hsy) (cwV 2 hts gX8_readLineOf_X8_readNumber rfl rfl rfl ⟨rfl, hq_X8_readNumber⟩ ⟨Nat.le_of_ble_eq_true rfl, Nat.le_of_ble_eq_true rfl⟩) (hs_preV hK hN (hs_subP (w := [_, _]) hP [0, 1] rfl) (hD.sub (ws' := [_, _]) [0, 1] (hs_upnd rfl) rfl) (ci := 7) (q0 := 0) rfl rfl) rfl rfl hl.1 rfl (lv_room (Nat.le_of_ble_eq_true rfl)) dX8_readLineOf_88 ⟨Nat.le_of_ble_eq_true rfl, Nat.le_of_ble_eq_true rfl⟩) hP hD hS hA [false, false, true] [_] [_, _] rfl [0, 1] rfl [0, 1] (fun u_15 => [_, _]) (fun _ => rfl) (hs_upnd rfl) [false, false, true] (fun u_15 => [_, _, _]) (fun _ => rfl) (fun r_13 u_15 H locs hw_14 hP hD hS => ?_)
    have hw_14 : r_13 = nI u_15.1 ∧ (u_15.1 ≤ 5 ∧ (u_15.2.2.2.2.1 = 0 → (mo_ft = 0 ∧ 2 ≤ u_15.1 ∧ mo_ps ≤ u_15.2.1.2 ∧ u_15.2.1.2 ≤ u_15.2.1.1 ∧ (u_15.2.2.1 = 0 ∨ u_15.2.1.2 < u_15.2.1.1))) ∧ u_15.2.1.1 ≤ mo_tl ∧ u_15.2.1.2 ≤ 160 ∧ u_15.2.2.2.2.1 ≤ 7) ∧ hSyU (cTN tf mo_tl fm pl kd st be va 2 5 (-4)).2.1 (cTN tf mo_tl fm pl kd st be va 2 5 (-4)).2.2 u_15.2 ∧ ((cTN tf mo_tl fm pl kd st be va 2 5 (-4)).2.1.1 = 0 → nI u_15.1 = (cTN tf mo_tl fm pl kd st be va 2 5 (-4)).1) := hw_14
    refine hs_topi (nI (u_15.1)) hw_14.1 ?_
    refine va_put (D := D) (ci := 7) (v := .int (nI (u_15.1))) (ty := .int) (C := RX8) (T := TX8) (N := 32) hx hb hts hiX8 tyX8 tyX8_ok nmX8 hown hK hP hD hS 0 rfl rfl 7 (Nat.le_of_ble_eq_true rfl) fl54 (fun _ h9 => h9) rfl (by decide +kernel) rfl rfl (Nat.le_of_ble_eq_true rfl) dX8_readLineOf_91 (fun H locs hP hD hS => ?_)
    have hP : va_P D vwCl [oq7 mo mo_st mo_at mo_isKept (nI mo_pe) (nI mo_hm) mo_draft (nI mo_dp) (nI (u_15.1)) mo_toldLines mo_highest mo_tape (nI mo_tl) (nI (u_15.2.1.1)) (nI (u_15.2.1.2)) u_15.2.2.1 u_15.2.2.2.1 (nI (u_15.2.2.2.2.1)) u_15.2.2.2.2.2 mo_row mo_orderMany (nI mo_fo) mo_lightest mo_heaviest mo_before mo_justSum mo_toldSum mo_allWays mo_lanes mo_sizes mo_cells mo_torn mo_had, _, _] H := hP
    have hD : va_D A [oq7 mo mo_st mo_at mo_isKept (nI mo_pe) (nI mo_hm) mo_draft (nI mo_dp) (nI (u_15.1)) mo_toldLines mo_highest mo_tape (nI mo_tl) (nI (u_15.2.1.1)) (nI (u_15.2.1.2)) u_15.2.2.1 u_15.2.2.2.1 (nI (u_15.2.2.2.2.1)) u_15.2.2.2.2.2 mo_row mo_orderMany (nI mo_fo) mo_lightest mo_heaviest mo_before mo_justSum mo_toldSum mo_allWays mo_lanes mo_sizes mo_cells mo_torn mo_had, _, _] := hD
    refine lv_goto (tgt := 120) hx hb dX8_readLineOf_94 rfl ?_
    exact hs_vret hx hb hr hlocks hK hP hD hS (((u_15.2.1.1, u_15.2.1.2), u_15.2.2.1, u_15.2.2.2.1, u_15.2.2.2.2.1, u_15.2.2.2.2.2), df, mo_highest, mo_dp, u_15.1) [0, 1, 2] rfl (hs_upnd rfl) dX8_readLineOf_120 (by dsimp only; rw [cBd_h7 (show hmi 8 = 7 by decide)]; dsimp only; exact ⟨⟨⟨by (try dsimp only); omega, by (try dsimp only); omega, by (try dsimp only); omega, fun h => by (try dsimp only at h); have a0 := hw_14.2.1.2.1 h; have b0 := hfp a0.1; exact ⟨by omega, by (try dsimp only); omega, by (try dsimp only); omega, by (try dsimp only); first | exact a0.2.2.2.2 | exact a0.2.2.2⟩⟩, hdr, by (try dsimp only); omega, by (try dsimp only); omega, fun h => by (try dsimp only at h ⊢); have a0 := hw_14.2.1.2.1 h; omega⟩, hw_14.2.2.1, fun h => (by have e9 := hw_14.2.2.2 (hSyU_0 hw_14.2.2.1 h).1; show rDr (fun j => ([d_N 0, d_N 1, (cTN tf mo_tl fm pl kd st be va 2 5 (-4)).1.toNatClampNeg, d_N 3, d_N 4] : List (Nat)).getD j 0) d_J d_F _ _ _ _; rw [← e9, nI_clamp (by omega)]; exact rDr_case hrd)⟩)
