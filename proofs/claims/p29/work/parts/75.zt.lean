theorem A_sheet_2 {i v n : Int32} (h : A_sheet i v n = 1) : ¬ v = -4 ∧ ¬ v = -1 := by
  by_cases h1 : (hsin i 0 3 && hsin v 0 2 && decide (n ≤ 40)) = true
  · have h2 := hs_and2 (hs_and1 h1)
    constructor <;> (intro e; rw [e] at h2; exact absurd h2 (by decide))
  · rw [A_sheet, if_neg h1] at h
    exact absurd h (by decide)

/-- what was SEEN -/
def fS4 (F : Nat → Nat → Int32) (a b c : Nat → Int32) : Nat → Nat → Int32 := fun j => ([F 0, F 1, F 2, F 3, a, b, c] : List (Nat → Int32)).getD j hsz
def nS4 (N : Nat → Nat) (c : Nat) : Nat → Nat := fun j => ([N 0, N 1, N 2, N 3, c] : List Nat).getD j 0
theorem hslt1_ex {v : Int32} {n : Nat} (hn : n < 2 ^ 30) (h : hslt1 v n = true) : ∃ j : Nat, 1 ≤ j ∧ j < n ∧ v = nI j := by
  simp only [hslt1, Bool.and_eq_true, decide_eq_true_eq] at h
  have hr : v.toInt < 2147483648 := Int32.toInt_lt v
  refine ⟨v.toInt.toNat, by omega, by omega, Int32.toInt_inj.mp ?_⟩
  rw [nI_toInt (by omega)]
  omega
theorem R_see {N : Nat → Nat} {J : Nat → Int32} {F : Nat → Nat → Int32} {g w : Nat → Int32} {pe hv : Nat} {i kk fo rc rm : Int32} {u : Nat × (Nat → Int32) × (Nat → Int32) × (Nat → Int32)} (hR : rT N J F g pe hv) (hK : thK N J F) (hc : cSn (N 1) (N 0) (N 4) (F 4) (F 5) (F 6) i kk fo rc u) (hm : mSn pe (N 0) (N 4) g i kk fo rm w) : rc = rm ∧ rT (nS4 N u.1) J (fS4 F u.2.1 u.2.2.1 u.2.2.2) w pe hv ∧ thK (nS4 N u.1) J (fS4 F u.2.1 u.2.2.1 u.2.2.2) ∧ ∀ q, 44 ≤ q → w q = g q := by
  have hpe := hR.2.1.1
  subst hpe
  rcases hc with ⟨x1, x2, x3⟩ | ⟨x1, x0, x2, x3⟩ | ⟨x1, x0, x2, x3⟩ <;> rcases hm with ⟨y1, y2, y3⟩ | ⟨y1, y0, y2, y3⟩ | ⟨y1, y0, y2, y3⟩
  · subst x3 y3; exact ⟨by rw [x2, y2], hR, hK, fun _ _ => rfl⟩
  · exact hs_tf y1 x1
  · exact hs_tf y1 x1
  · exact hs_tf x1 y1
  · subst x3 y3; exact ⟨by rw [x2, y2], hR, hK, fun _ _ => rfl⟩
  · exact absurd y0 (by omega)
  · exact hs_tf x1 y1
  · exact absurd x0 (by omega)
  · subst x3 y3
    obtain ⟨⟨a1, a2⟩, ⟨b1, b2⟩, ⟨c1, c2, c3⟩, d1, ⟨e1, e2⟩, ⟨f1, f2⟩⟩ := hR
    obtain ⟨hN, hF, h2, ⟨k1, k2, k3, k4, k5⟩, hp, hW, hs⟩ := hK
    obtain ⟨I0, I1, I2, I3, I4⟩ := hN
    obtain ⟨j, hj, ej⟩ := hslt_ex (hs_and1 (hs_and1 x1))
    obtain ⟨k, hk1, hk2, ek⟩ := hslt1_ex (by omega) (hs_and2 (hs_and1 x1))
    have hfo := hs_vr (hi := 2) (by decide) (hs_and2 x1)
    have ho : ∀ q, ¬ (25 ≤ q ∧ q ≤ 43) → seM g (N 4) i kk fo q = g q := fun q hq => by
      unfold seM
      rw [hs_un (by omega), hs_un (by omega), hs_un (by omega), hs_un (by omega)]
    refine ⟨by rw [x2, y2], ⟨⟨(ho _ (by omega)).trans a1, fun q hq => (ho _ (by have hq2 : q < N 0 := hq; omega)).trans (a2 q hq)⟩, ⟨rfl, fun q hq => (ho _ (by have hq2 : q < N 1 := hq; omega)).trans (b2 q hq)⟩, ⟨(ho _ (by omega)).trans c1, (ho _ (by omega)).trans c2, (ho _ (by omega)).trans c3⟩, d1, ⟨(ho _ (by omega)).trans e1, fun q hq => (ho _ (by have hq2 : q < N 3 := hq; omega)).trans (e2 q hq)⟩, ⟨hs_uq rfl, fun q hq => ?_⟩⟩, ⟨⟨I0, I1, I2, I3, show N 4 + 1 ≤ 6 by omega⟩, ⟨hF.1, fun q hq => ?_⟩, h2, ⟨k1, k2, k3, k4, k5⟩, hp, hW, fun q hq => ?_⟩, fun q hq => ho q (by omega)⟩
    · have hq2 : q < N 4 + 1 := hq
      show seM g (N 4) i kk fo (26 + 3 * q) = upd (F 4) (N 4) i q ∧ seM g (N 4) i kk fo (26 + 3 * q + 1) = upd (F 5) (N 4) kk q ∧ seM g (N 4) i kk fo (26 + 3 * q + 2) = upd (F 6) (N 4) fo q
      unfold seM
      by_cases e : q = N 4
      · subst e
        refine ⟨?_, ?_, ?_⟩
        · rw [hs_un (by omega), hs_un (by omega), hs_un (by omega), hs_uq rfl, hs_uq rfl]
        · rw [hs_un (by omega), hs_un (by omega), hs_uq rfl, hs_uq rfl]
        · rw [hs_un (by omega), hs_uq rfl, hs_uq rfl]
      · have f3 := f2 q (by omega)
        refine ⟨?_, ?_, ?_⟩
        · rw [hs_un (by omega), hs_un (by omega), hs_un (by omega), hs_un (by omega), hs_un e]; exact f3.1
        · rw [hs_un (by omega), hs_un (by omega), hs_un (by omega), hs_un (by omega), hs_un e]; exact f3.2.1
        · rw [hs_un (by omega), hs_un (by omega), hs_un (by omega), hs_un (by omega), hs_un e]; exact f3.2.2
    · have hq2 : q < N 4 + 1 := hq
      show vp_in (upd (F 4) (N 4) i q) 4
      by_cases e : q = N 4
      · rw [hs_uq e, ej]; exact vp_in_nI (by omega) (by decide)
      · rw [hs_un e]; exact hF.2 q (by omega)
    · have hq2 : q < N 4 + 1 := hq
      show (∃ k : Nat, 1 ≤ k ∧ k < 8 ∧ upd (F 5) (N 4) kk q = nI k) ∧ vp_in (upd (F 6) (N 4) fo q) 3 ∧ ∃ p : Nat, p < N 1 ∧ upd (F 4) (N 4) i q = nI p
      by_cases e : q = N 4
      · rw [hs_uq e, hs_uq e, hs_uq e]; exact ⟨⟨k, hk1, by omega, ek⟩, hfo, j, hj, ej⟩
      · rw [hs_un e, hs_un e, hs_un e]; exact hs q (by omega)
theorem R_forget {N : Nat → Nat} {J : Nat → Int32} {F : Nat → Nat → Int32} {g w : Nat → Int32} {pe hv : Nat} {n rc rm : Int32} {u : Nat} (hR : rT N J F g pe hv) (hK : thK N J F) (hc : cFo (N 4) n rc u) (hm : mFo (N 4) g n rm w) : rc = rm ∧ rT (nS4 N u) J F w pe hv ∧ thK (nS4 N u) J F ∧ ∀ q, 44 ≤ q → w q = g q := by
  rcases hc with ⟨x1, x2, x3⟩ | ⟨x1, x2, x3, x4⟩ <;> rcases hm with ⟨y1, y2, y3⟩ | ⟨y1, y2, y3⟩
  · subst x3 y3; exact ⟨by rw [x2, y2], hR, hK, fun _ _ => rfl⟩
  · exact hs_tf y1 x1
  · exact hs_tf x1 y1
  · subst y3
    obtain ⟨⟨a1, a2⟩, ⟨b1, b2⟩, ⟨c1, c2, c3⟩, d1, ⟨e1, e2⟩, ⟨f1, f2⟩⟩ := hR
    obtain ⟨⟨I0, I1, I2, I3, I4⟩, hF, h2, hB, hp, hW, hs⟩ := hK
    have ho : ∀ q, ¬ q = 25 → upd g 25 n q = g q := fun q hq => hs_un hq
    exact ⟨by rw [x2, y2], ⟨⟨(ho _ (by omega)).trans a1, fun q hq => (ho _ (by have hq2 : q < N 0 := hq; omega)).trans (a2 q hq)⟩, ⟨b1, fun q hq => (ho _ (by have hq2 : q < N 1 := hq; omega)).trans (b2 q hq)⟩, ⟨(ho _ (by omega)).trans c1, (ho _ (by omega)).trans c2, (ho _ (by omega)).trans c3⟩, d1, ⟨(ho _ (by omega)).trans e1, fun q hq => (ho _ (by have hq2 : q < N 3 := hq; omega)).trans (e2 q hq)⟩, ⟨(hs_uq rfl).trans x3, fun q hq => (by have hq2 : q < u := hq; have f3 := f2 q (by omega); exact ⟨(ho _ (by omega)).trans f3.1, (ho _ (by omega)).trans f3.2.1, (ho _ (by omega)).trans f3.2.2⟩)⟩⟩, ⟨⟨I0, I1, I2, I3, show u ≤ 6 by omega⟩, ⟨hF.1, fun q hq => hF.2 q (by have hq2 : q < u := hq; omega)⟩, h2, hB, hp, hW, fun q hq => hs q (by have hq2 : q < u := hq; omega)⟩, fun q hq => ho q (by omega)⟩
/-- one LIGHTER pair more -/
def fS2 (F : Nat → Nat → Int32) (a b : Nat → Int32) : Nat → Nat → Int32 := fun j => ([F 0, F 1, a, b, F 4, F 5, F 6] : List (Nat → Int32)).getD j hsz
def nS3 (N : Nat → Nat) (c : Nat) : Nat → Nat := fun j => ([N 0, N 1, N 2, c, N 4] : List Nat).getD j 0
theorem rT_pr {N : Nat → Nat} {J : Nat → Int32} {F : Nat → Nat → Int32} {g : Nat → Int32} {pe hv : Nat} (hR : rT N J F g pe hv) (hK : thK N J F) : ∀ k, k < N 3 → (g (17 + k) = nI (10 * hLt F k + hHv F k) ∧ hLt F k < hv ∧ hHv F k < hv) := by
  intro k hk
  have pk := thB_pr hK.2.2.2.1 k hk
  have hp := hK.2.2.2.2.1 k hk
  rw [hR.2.2.2.2.1.2 k hk, pk.2.2.1, pk.2.2.2, hs_ten, hR.2.2.2.1]
  exact ⟨rfl, hp⟩
theorem R_lighter {N : Nat → Nat} {J : Nat → Int32} {F : Nat → Nat → Int32} {g w : Nat → Int32} {pe hv : Nat} {a b rc rm : Int32} {u : Nat × (Nat → Int32) × (Nat → Int32)} (hR : rT N J F g pe hv) (hK : thK N J F) (hc : cLi (N 2) (N 3) F a b rc u) (hm : mLi hv (N 3) (hLt F) (hHv F) g a b rm w) : rc = rm ∧ rT (nS3 N u.1) J (fS2 F u.2.1 u.2.2) w pe hv ∧ thK (nS3 N u.1) J (fS2 F u.2.1 u.2.2) ∧ ∀ q, 44 ≤ q → w q = g q := by
  have hhm := hR.2.2.2.1
  subst hhm
  have I2 := hK.1.2.2.1
  rcases hc with ⟨x1, x2, x3⟩ | ⟨x, y, hx, hy, hxy, ea, eb, x1⟩ <;> rcases hm with ⟨y1, y2, y3⟩ | ⟨x9, y9, hx9, hy9, hxy9, ea9, eb9, y1⟩
  · subst x3 y3; exact ⟨by rw [x2, y2], hR, hK, fun _ _ => rfl⟩
  · exact absurd ⟨x9, y9, hx9, hy9, hxy9, ea9, eb9⟩ x1
  · exact absurd ⟨x, y, hx, hy, hxy, ea, eb⟩ y1
  · have e1 : x = x9 := (nI_eq (by omega) (by omega)).mp (ea.symm.trans ea9)
    have e2 : y = y9 := (nI_eq (by omega) (by omega)).mp (eb.symm.trans eb9)
    subst e1 e2
    rcases x1 with ⟨x0, x2, x3⟩ | ⟨x0, xw, x2, x3⟩ | ⟨x0, xw, x2, x3⟩ <;> rcases y1 with ⟨y0, y2, y3⟩ | ⟨y0, yw, y2, y3⟩ | ⟨y0, yw, y2, y3⟩
    · subst x3 y3; exact ⟨by rw [x2, y2], hR, hK, fun _ _ => rfl⟩
    · exact absurd x0 (by omega)
    · exact absurd x0 (by omega)
    · exact absurd y0 (by omega)
    · subst x3 y3; exact ⟨by rw [x2, y2], hR, hK, fun _ _ => rfl⟩
    · exact absurd xw yw
    · exact absurd y0 (by omega)
    · exact absurd yw xw
    · subst x3 y3
      obtain ⟨⟨a1, a2⟩, ⟨b1, b2⟩, ⟨c1, c2, c3⟩, d1, ⟨e1, e2⟩, ⟨f1, f2⟩⟩ := hR
      obtain ⟨⟨I0, I1, I2, I3, I4⟩, hF, h2, ⟨k1, k2, k3, k4, k5⟩, hp, hW, hs⟩ := hK
      have ho : ∀ q, ¬ (16 ≤ q ∧ q ≤ 24) → upd (upd g (17 + N 3) (nI (10 * x + y))) 16 (nI (N 3 + 1)) q = g q := fun q hq => (hs_un (by omega)).trans (hs_un (by omega))
      have hL : ∀ q, q < N 3 + 1 → (hLt (fS2 F (upd (F 2) (N 3) a) (upd (F 3) (N 3) b)) q = pxL (hLt F) (N 3) x q ∧ hHv (fS2 F (upd (F 2) (N 3) a) (upd (F 3) (N 3) b)) q = pxL (hHv F) (N 3) y q) := by
        intro q hq
        show (upd (F 2) (N 3) a q).toNatClampNeg = pxL (hLt F) (N 3) x q ∧ (upd (F 3) (N 3) b q).toNatClampNeg = pxL (hHv F) (N 3) y q
        by_cases e : q = N 3
        · subst e
          rw [hs_uq rfl, hs_uq rfl, pxL_at, pxL_at, ea, eb, nI_clamp (by omega), nI_clamp (by omega)]
          exact ⟨rfl, rfl⟩
        · rw [hs_un e, hs_un e, pxL_lt (by omega), pxL_lt (by omega)]
          exact ⟨rfl, rfl⟩
      refine ⟨by rw [x2, y2], ⟨⟨(ho _ (by omega)).trans a1, fun q hq => (ho _ (by have hq2 : q < N 0 := hq; omega)).trans (a2 q hq)⟩, ⟨b1, fun q hq => (ho _ (by have hq2 : q < N 1 := hq; omega)).trans (b2 q hq)⟩, ⟨(ho _ (by omega)).trans c1, (ho _ (by omega)).trans c2, (ho _ (by omega)).trans c3⟩, rfl, ⟨hs_uq rfl, fun q hq => ?_⟩, ⟨(ho _ (by omega)).trans f1, fun q hq => ⟨(ho _ (by omega)).trans (f2 q hq).1, (ho _ (by omega)).trans (f2 q hq).2.1, (ho _ (by omega)).trans (f2 q hq).2.2⟩⟩⟩, ⟨⟨I0, I1, I2, show N 3 + 1 ≤ 8 by omega, I4⟩, ⟨fun q hq => ?_, hF.2⟩, h2, ⟨k1, k2, k3, k4, fun q hq => ?_⟩, fun q hq => ?_, ?_, hs⟩, fun q hq => ho q (by omega)⟩
      · have hq2 : q < N 3 + 1 := hq
        show upd (upd g (17 + N 3) (nI (10 * x + y))) 16 (nI (N 3 + 1)) (17 + q) = 10 * upd (F 2) (N 3) a q + upd (F 3) (N 3) b q
        rw [hs_un (by omega)]
        by_cases e : q = N 3
        · subst e
          rw [hs_uq rfl, hs_uq rfl, hs_uq rfl, ea, eb, hs_ten]
        · rw [hs_un (by omega), hs_un e, hs_un e]; exact e2 q (by omega)
      · have hq2 : q < N 3 + 1 := hq
        show vp_in (upd (F 3) (N 3) b q) 5
        by_cases e : q = N 3
        · rw [hs_uq e, eb]; exact vp_in_nI (by omega) (by decide)
        · rw [hs_un e]; exact (k5 q (by omega)).2
      · have hq2 : q < N 3 + 1 := hq
        show vp_in (upd (F 2) (N 3) a q) 5 ∧ vp_in (upd (F 3) (N 3) b q) 5
        by_cases e : q = N 3
        · rw [hs_uq e, hs_uq e, ea, eb]; exact ⟨vp_in_nI (by omega) (by decide), vp_in_nI (by omega) (by decide)⟩
        · rw [hs_un e, hs_un e]; exact k5 q (by omega)
      · have hq2 : q < N 3 + 1 := hq
        rw [(hL q hq2).1, (hL q hq2).2]
        show pxL (hLt F) (N 3) x q < N 2 ∧ pxL (hHv F) (N 3) y q < N 2
        by_cases e : q = N 3
        · rw [e, pxL_at, pxL_at]; exact ⟨hx, hy⟩
        · rw [pxL_lt (by omega), pxL_lt (by omega)]; exact hp q (by omega)
      · show ¬ Wm (N 2) (hAh (hLt (fS2 F (upd (F 2) (N 3) a) (upd (F 3) (N 3) b))) (hHv (fS2 F (upd (F 2) (N 3) a) (upd (F 3) (N 3) b))) (N 3 + 1)) (N 2) (2 ^ N 2 - 1) = 0
        have e9 : hAh (hLt (fS2 F (upd (F 2) (N 3) a) (upd (F 3) (N 3) b))) (hHv (fS2 F (upd (F 2) (N 3) a) (upd (F 3) (N 3) b))) (N 3 + 1) = ahx (hAh (hLt F) (hHv F) (N 3)) x y := by
          rw [← hAh_px]
          funext h
          exact hAh_congr _ (fun k hk => hL k hk)
        rw [e9]
        exact xw
/-- images -/
theorem R_keep {N a b : Nat → Nat} {J aJ bJ : Nat → Int32} {F aF bF : Nat → Nat → Int32} {g : Nat → Int32} {pe hv : Nat} {it kf : Nat → Int32} {i rc rm : Int32} {u : (Nat → Int32) × ((Nat → Nat) × (Nat → Int32) × (Nat → Nat → Int32)) × ((Nat → Nat) × (Nat → Int32) × (Nat → Nat → Int32))} {w : (Nat → Int32) × (Nat → Int32)} (hR : rT N J F g pe hv) (hK : thK N J F) (h0 : rI (it 0) (kf 0) a aJ aF (fun q => g (44 + q)) pe hv) (h1 : rI (it 1) (kf 1) b bJ bF (fun q => g (88 + q)) pe hv) (hc : cKe it (N, J, F) (a, aJ, aF) (b, bJ, bF) i rc u) (hm : mKe kf g i rm w) : rc = rm ∧ rT N J F w.1 pe hv ∧ rI (u.1 0) (w.2 0) u.2.1.1 u.2.1.2.1 u.2.1.2.2 (fun q => w.1 (44 + q)) pe hv ∧ rI (u.1 1) (w.2 1) u.2.2.1 u.2.2.2.1 u.2.2.2.2 (fun q => w.1 (88 + q)) pe hv := by
  have fl : ∀ x y : Int32, ((x = 0 ∧ y = 0) ∨ (x = 1 ∧ y = 1)) → (if x = 0 then (0 : Int32) else 1) = (if y = 0 then 0 else 1) := by
    rintro x y (⟨rfl, rfl⟩ | ⟨rfl, rfl⟩) <;> rfl
  have q0 : (it 0 = 0 ∧ kf 0 = 0) ∨ (it 0 = 1 ∧ kf 0 = 1) := h0.elim Or.inl (fun z => Or.inr ⟨z.1, z.2.1⟩)
  have q1 : (it 1 = 0 ∧ kf 1 = 0) ∨ (it 1 = 1 ∧ kf 1 = 1) := h1.elim Or.inl (fun z => Or.inr ⟨z.1, z.2.1⟩)
  rcases hm with ⟨y1, y2, y3⟩ | ⟨k, hk, ek, y2, y3, y4, y5⟩
  · rcases hc with ⟨x1, x2, x3⟩ | ⟨x1, _⟩ | ⟨x1, _⟩
    · subst x3 y3; exact ⟨by rw [x2, y2], hR, h0, h1⟩
    · subst x1; exact absurd y1 (by decide)
    · subst x1; exact absurd y1 (by decide)
  · have hR2 : rT N J F w.1 pe hv := rT_eq hK.1 hR (fun q hq => y5 q (by omega))
    rcases hc with ⟨x1, x2, x3⟩ | ⟨x1, x2, x3, x4, x5, x6, x7⟩ | ⟨x1, x2, x3, x4, x5, x6, x7⟩
    · exfalso
      rcases (show k = 0 ∨ k = 1 by omega) with rfl | rfl
      · rw [ek] at x1; exact absurd x1 (by decide)
      · rw [ek] at x1; exact absurd x1 (by decide)
    · have e : k = 0 := (nI_eq (a := k) (b := 0) (by omega) (by decide)).mp (ek.symm.trans x1)
      subst e
      refine ⟨by rw [x2, y2]; exact fl _ _ q0, hR2, ?_, ?_⟩
      · rw [x3, y3, x4, x5, hs_uq rfl, hs_uq rfl]
        exact Or.inr ⟨rfl, rfl, cp_rT hK.1 (rT_eq hK.1 hR (fun q hq => y4 q hq)) x6, cp_thK hK x6⟩
      · rw [x3, y3, x7, hs_un (by decide), hs_un (by decide)]
        exact rI_eq h1 (fun q hq => y5 _ (by omega))
    · have e : k = 1 := (nI_eq (a := k) (b := 1) (by omega) (by decide)).mp (ek.symm.trans x1)
      subst e
      refine ⟨by rw [x2, y2]; exact fl _ _ q1, hR2, ?_, ?_⟩
      · rw [x3, y3, x7, hs_un (by decide), hs_un (by decide)]
        exact rI_eq h0 (fun q hq => y5 _ (by omega))
      · rw [x3, y3, x4, x5, hs_uq rfl, hs_uq rfl]
        exact Or.inr ⟨rfl, rfl, cp_rT hK.1 (rT_eq hK.1 hR (fun q hq => y4 q hq)) x6, cp_thK hK x6⟩
theorem R_back {N a b : Nat → Nat} {J aJ bJ : Nat → Int32} {F aF bF : Nat → Nat → Int32} {g w : Nat → Int32} {pe hv : Nat} {it kf : Nat → Int32} {i rc rm : Int32} {u : (Nat → Nat) × (Nat → Int32) × (Nat → Nat → Int32)} (hR : rT N J F g pe hv) (hK : thK N J F) (h0 : rI (it 0) (kf 0) a aJ aF (fun q => g (44 + q)) pe hv) (h1 : rI (it 1) (kf 1) b bJ bF (fun q => g (88 + q)) pe hv) (hc : cBa it (N, J, F) (a, aJ, aF) (b, bJ, bF) i rc u) (hm : mBa kf g i rm w) : rc = rm ∧ rT u.1 u.2.1 u.2.2 w pe hv ∧ thK u.1 u.2.1 u.2.2 ∧ ∀ q, 44 ≤ q → w q = g q := by
  rcases hm with ⟨y1, y2, y3⟩ | ⟨k, hk, ek, y1⟩
  · rcases hc with ⟨x1, x2, x3⟩ | ⟨x1, _⟩ | ⟨x1, _⟩
    · subst x3 y3; exact ⟨by rw [x2, y2], hR, hK, fun _ _ => rfl⟩
    · subst x1; exact absurd y1 (by decide)
    · subst x1; exact absurd y1 (by decide)
  · rcases hc with ⟨x1, x2, x3⟩ | ⟨x1, x9⟩ | ⟨x1, x9⟩
    · exfalso
      rcases (show k = 0 ∨ k = 1 by omega) with rfl | rfl
      · rw [ek] at x1; exact absurd x1 (by decide)
      · rw [ek] at x1; exact absurd x1 (by decide)
    · have e : k = 0 := (nI_eq (a := k) (b := 0) (by omega) (by decide)).mp (ek.symm.trans x1)
      subst e
      rcases x9 with ⟨x0, x2, x3⟩ | ⟨x0, x2, x3, x4, x5⟩ <;> rcases y1 with ⟨y0, y2, y3⟩ | ⟨y0, y2, y3, y4⟩ <;> rcases h0 with ⟨z1, z2⟩ | ⟨z1, z2, z3, z4⟩
      · subst x3 y3; exact ⟨by rw [x2, y2], hR, hK, fun _ _ => rfl⟩
      · rw [z1] at x0; exact absurd x0 (by decide)
      · exact absurd z2 y0
      · rw [z1] at x0; exact absurd x0 (by decide)
      · exact absurd z1 x0
      · rw [z2] at y0; exact absurd y0 (by decide)
      · exact absurd z1 x0
      · have hw := cp_rT z4.1 (rT_eq z4.1 z3 (g2 := w) (fun q hq => y3 q hq)) x5
        refine ⟨?_, by rw [x3, x4]; exact hw, by rw [x3, x4]; exact cp_thK z4 x5, y4⟩
        rw [x2, y2]; exact hw.1.1.symm
    · have e : k = 1 := (nI_eq (a := k) (b := 1) (by omega) (by decide)).mp (ek.symm.trans x1)
      subst e
      rcases x9 with ⟨x0, x2, x3⟩ | ⟨x0, x2, x3, x4, x5⟩ <;> rcases y1 with ⟨y0, y2, y3⟩ | ⟨y0, y2, y3, y4⟩ <;> rcases h1 with ⟨z1, z2⟩ | ⟨z1, z2, z3, z4⟩
      · subst x3 y3; exact ⟨by rw [x2, y2], hR, hK, fun _ _ => rfl⟩
      · rw [z1] at x0; exact absurd x0 (by decide)
      · exact absurd z2 y0
      · rw [z1] at x0; exact absurd x0 (by decide)
      · exact absurd z1 x0
      · rw [z2] at y0; exact absurd y0 (by decide)
      · exact absurd z1 x0
      · have hw := cp_rT z4.1 (rT_eq z4.1 z3 (g2 := w) (fun q hq => y3 q hq)) x5
        refine ⟨?_, by rw [x3, x4]; exact hw, by rw [x3, x4]; exact cp_thK z4 x5, y4⟩
        rw [x2, y2]; exact hw.1.1.symm
/-- sheets -/
theorem R_sheet {laf sif ce la1 si1 ce1 s_la la2 : Nat → Int32} {s_z z2 : Nat → Nat} {s_r r2 : Nat → Nat → Int32} {i v n rc rm : Int32} (hrel : rSh s_la s_z s_r laf sif ce)
    (ec : rc = A_sheet i v n) (hc : (¬ rc = 1 ∧ la2 = s_la ∧ z2 = s_z ∧ r2 = s_r) ∨ (rc = 1 ∧ ∃ i0 : Nat, i0 < 4 ∧ i = nI i0 ∧ la2 i0 = v ∧ nI (z2 i0) = n ∧ (∀ j, j < 40 → r2 i0 j = 0) ∧ ∀ k, ¬ k = i0 → k < 4 → (la2 k = s_la k ∧ z2 k = s_z k ∧ r2 k = s_r k))) (hz : ∀ k, k < 4 → z2 k ≤ 40)
    (em : rm = A_sheet i v n) (hm : (rm = 1 ∧ la1 = upd laf i.toNatClampNeg v ∧ si1 = upd sif i.toNatClampNeg n ∧ ∃ k : Nat, k < 4 ∧ i = nI k ∧ (∀ j, j < 40 → ce1 (40 * k + j) = 0) ∧ ∀ q, ¬ (40 * k ≤ q ∧ q < 40 * k + 40) → ce1 q = ce q) ∨ (¬ rm = 1 ∧ la1 = laf ∧ si1 = sif ∧ ce1 = ce)) : rSh la2 z2 r2 la1 si1 ce1 := by
  rcases hc with ⟨h1, h2, h3, h4⟩ | ⟨h1, i0, hi0, ei, h2, h3, h5, h4⟩
  · rcases hm with ⟨g1, _⟩ | ⟨_, g2, g3, g4⟩
    · exact absurd (ec.trans (em.symm.trans g1)) h1
    · rw [h2, h3, h4, g2, g3, g4]
      exact hrel
  · rcases hm with ⟨_, g2, g3, k0, hk0, ek, g4, g5⟩ | ⟨g1, _⟩
    · intro k hk
      have e0 : i0 = k0 := (nI_eq (by omega) (by omega)).mp (ei.symm.trans ek)
      subst e0
      have hv := A_sheet_2 (ec.symm.trans h1)
      rw [g2, g3, ek, nI_clamp (by omega)]
      by_cases e : k = i0
      · subst e
        rw [hs_uq rfl, hs_uq rfl, h2]
        exact Or.inr ⟨rfl, hv.2, hv.1, h3.symm, hz k hk, fun j hj => by rw [g4 j hj, h5 j hj]⟩
      · rw [hs_un e, hs_un e, (h4 k e hk).1, (h4 k e hk).2.1, (h4 k e hk).2.2]
        rcases hrel k hk with h9 | ⟨a, b, c, d, f, h9⟩
        · exact Or.inl h9
        · exact Or.inr ⟨a, b, c, d, f, fun j hj => (g5 _ (by omega)).trans (h9 j hj)⟩
    · exact absurd (em.trans (ec.symm.trans h1)) g1
theorem R_layeq {laf sif ce s_la : Nat → Int32} {s_z zs : Nat → Nat} {s_r : Nat → Nat → Int32} {i a : Int32} (hrel : rSh s_la s_z s_r laf sif ce) (hzs : ∀ k, k < 4 → sif k = nI (zs k) ∧ zs k ≤ 40) : (if hsin i 0 3 then A_layf (s_la i.toNatClampNeg) (s_z i.toNatClampNeg) a else -1) = (if hsin i 0 3 then A_laym (laf i.toNatClampNeg) (zs i.toNatClampNeg) a else -1) := by
  by_cases h : hsin i 0 3 = true
  · rw [if_pos h, if_pos h]
    obtain ⟨k, -, hk, rfl⟩ := hs_rng (lo := 0) (hi := 3) (by decide) (by decide) h
    rw [nI_clamp (by omega)]
    rcases hrel k (by omega) with ⟨h1, h2⟩ | ⟨h1, h2, h3, h4, h5, -⟩
    · rw [A_layf, A_laym, if_pos h1, if_pos h2]
    · have e : zs k = s_z k := (nI_eq (by have := (hzs k (by omega)).2; omega) (by omega)).mp ((hzs k (by omega)).1.symm.trans h4)
      have h6 : ¬ laf k = -4 := by rw [h1]; exact h3
      rw [A_layf, A_laym, if_neg h2, if_neg h6, e]
  · rw [if_neg h, if_neg h]
theorem R_lay {laf sif ce ce1 s_la : Nat → Int32} {s_z zs : Nat → Nat} {s_r r2 : Nat → Nat → Int32} {i a v rc rm : Int32} (hrel : rSh s_la s_z s_r laf sif ce) (hzs : ∀ k, k < 4 → sif k = nI (zs k) ∧ zs k ≤ 40)
    (hc : rc = (if hsin i 0 3 then A_layf (s_la i.toNatClampNeg) (s_z i.toNatClampNeg) a else -1) ∧ ((¬ rc = 1 ∧ r2 = s_r) ∨ (rc = 1 ∧ ∃ i0 aj : Nat, i0 < 4 ∧ aj < s_z i0 ∧ i = nI i0 ∧ a = nI aj ∧ r2 i0 = upd (s_r i0) aj (lnV (s_la i0) v) ∧ ∀ k, ¬ k = i0 → k < 4 → r2 k = s_r k)))
    (hm : rm = (if hsin i 0 3 then A_laym (laf i.toNatClampNeg) (zs i.toNatClampNeg) a else -1) ∧ ((¬ rm = 1 ∧ ce1 = ce) ∨ (rm = 1 ∧ ∃ k aj : Nat, k < 4 ∧ aj < zs k ∧ i = nI k ∧ a = nI aj ∧ ce1 = upd ce (40 * k + aj) (lnV (laf k) v)))) : rc = rm ∧ rSh s_la s_z r2 laf sif ce1 := by
  have er : rc = rm := by rw [hc.1, hm.1]; exact R_layeq hrel hzs
  refine ⟨er, ?_⟩
  rcases hc.2 with ⟨h1, h2⟩ | ⟨h1, i0, aj, hi0, haj, ei, ea, h2, h3⟩ <;> rcases hm.2 with ⟨g1, g2⟩ | ⟨g1, k0, bj, hk0, hbj, ek, eb, g2⟩
  · rw [h2, g2]; exact hrel
  · exact absurd (er.trans g1) h1
  · exact absurd (er.symm.trans h1) g1
  · have e0 : i0 = k0 := (nI_eq (by omega) (by omega)).mp (ei.symm.trans ek)
    subst e0
    have hzk := (hzs i0 hi0).2
    intro k hk
    rcases hrel k hk with h9 | ⟨a1, b1, c1, d1, f1, h9⟩
    · exact Or.inl h9
    · refine Or.inr ⟨a1, b1, c1, d1, f1, fun j hj => ?_⟩
      by_cases e : k = i0
      · subst e
        have ez : zs k = s_z k := (nI_eq (by omega) (by omega)).mp ((hzs k hk).1.symm.trans d1)
        have eab : aj = bj := (nI_eq (by omega) (by omega)).mp (ea.symm.trans eb)
        subst eab
        rw [h2, g2, a1]
        by_cases e3 : j = aj
        · rw [hs_uq (by omega), hs_uq e3]
        · rw [hs_un (by omega), hs_un e3]; exact h9 j hj
      · rw [h3 k e hk, g2, hs_un (by omega)]; exact h9 j hj
/-- read -/
theorem wt_rel {c z m n : Nat} {la : Int32} {w v s : Nat → Int32} {lane f : Int32} (hc : c ≤ 8) (h : ∀ q, q < c → s (1 + q) = v q) (hb : ∀ q, q < c → vp_in (v q) 10) (ok : ∀ j, j < m → okR c la z w lane f j) : (∀ q, q < c → (wtM z w f s m (1 + q) = wtR z w f v m q ∧ vp_in (wtR z w f v m q) 10)) ∧ ∀ q, ¬ (1 ≤ q ∧ q ≤ 8) → wtM z w f s m q = s q := by
  induction m with
  | zero => exact ⟨fun q hq => ⟨h q hq, hb q hq⟩, fun _ _ => rfl⟩
  | succ m ih =>
    obtain ⟨i1, i2⟩ := ih (fun j hj => ok j (by omega))
    obtain ⟨j, x, hj, hx, ej, ex⟩ := wk_in (ok m (by omega)).2
    refine ⟨fun q hq => ?_, fun q hq => ?_⟩
    · show upd (wtM z w f s m) (1 + (aTs z w (pRd f m)).toNatClampNeg) (aTs z w (pRd f m + 1)) (1 + q) = upd (wtR z w f v m) (aTs z w (pRd f m)).toNatClampNeg (aTs z w (pRd f m + 1)) q ∧ vp_in (upd (wtR z w f v m) (aTs z w (pRd f m)).toNatClampNeg (aTs z w (pRd f m + 1)) q) 10
      rw [ej, nI_clamp (by omega), ex]
      by_cases e : q = j
      · rw [hs_uq (by omega), hs_uq e]; exact ⟨rfl, vp_in_nI (by omega) (by decide)⟩
      · rw [hs_un (by omega), hs_un e]; exact i1 q hq
    · show upd (wtM z w f s m) (1 + (aTs z w (pRd f m)).toNatClampNeg) (aTs z w (pRd f m + 1)) q = s q
      rw [ej, nI_clamp (by omega), hs_un (by omega)]
      exact i2 q hq
theorem R_read {N : Nat → Nat} {J : Nat → Int32} {F : Nat → Nat → Int32} {g : Nat → Int32} {pe hv : Nat} {s_la : Nat → Int32} {s_z : Nat → Nat} {s_r : Nat → Nat → Int32} {tor i lane f n rc rm : Int32} {u w : (Nat → Int32) × Int32} (hR : rT N J F g pe hv) (hK : thK N J F) (hc : cRd (N 0) s_la s_z s_r tor (F 0) i lane f n rc u) (hm : mRd (N 0) s_la s_z s_r tor g i lane f n rm w) : rc = rm ∧ u.2 = w.2 ∧ rT N J (fS0 F u.1) w.1 pe hv ∧ thK N J (fS0 F u.1) ∧ ∀ q, 44 ≤ q → w.1 q = g q := by
  have bad : ∀ k nn : Nat, k < 4 → nn ≤ 20 → i = nI k → n = nI nn → hsin lane 0 2 = true → (hsin i 0 3 && hsin lane 0 2 && hsin n 0 20) = false → False := by
    intro k nn hk hn ek en hl h
    have e1 : hsin i 0 3 = true := by
      rw [ek]; refine hsin_of ?_
      rw [nI_toInt (by omega)]
      have z0 : (0 : Int32).toInt = 0 := rfl
      have z3 : (3 : Int32).toInt = 3 := by decide
      omega
    have e2 : hsin n 0 20 = true := by
      rw [en]; refine hsin_of ?_
      rw [nI_toInt (by omega)]
      have z0 : (0 : Int32).toInt = 0 := rfl
      have z3 : (20 : Int32).toInt = 20 := by decide
      omega
    rw [e1, e2, hl] at h
    cases h
  rcases hc with ⟨x1, x2, x3⟩ | ⟨k, nn, hk, ek, hn, en, hl, m, hmn, ok, x1⟩ <;> rcases hm with ⟨y1, y2, y3⟩ | ⟨k2, nn2, hk2, ek2, hn2, en2, hl2, m2, hmn2, ok2, y1⟩
  · subst x3 y3; exact ⟨by rw [x2, y2], rfl, hR, hK, fun _ _ => rfl⟩
  · exact (bad k2 nn2 hk2 hn2 ek2 en2 hl2 x1).elim
  · exact (bad k nn hk hn ek en hl y1).elim
  · have e1 : k = k2 := (nI_eq (by omega) (by omega)).mp (ek.symm.trans ek2)
    have e2 : nn = nn2 := (nI_eq (by omega) (by omega)).mp (en.symm.trans en2)
    subst e1 e2
    have stop1 : m < nn → ¬ okR (N 0) (s_la k) (s_z k) (s_r k) lane f m := by
      intro hlt ho
      rcases x1 with ⟨_, _, z, _⟩ | ⟨z, _⟩ | ⟨_, z, _⟩
      · exact hs_tf ho.2 z
      · omega
      · exact z ho.1
    have stop2 : m2 < nn → ¬ okR (N 0) (s_la k) (s_z k) (s_r k) lane f m2 := by
      intro hlt ho
      rcases y1 with ⟨_, _, z, _⟩ | ⟨z, _⟩ | ⟨_, z, _⟩
      · exact hs_tf ho.2 z
      · omega
      · exact z ho.1
    have em : m = m2 := by
      rcases Nat.lt_trichotomy m m2 with h | h | h
      · exact absurd (ok2 m h) (stop1 (by omega))
      · exact h
      · exact absurd (ok m2 h) (stop2 (by omega))
    subst em
    obtain ⟨w1, w2⟩ := wt_rel (n := nn) hK.1.1 hR.1.2 hK.2.2.2.1.1 ok
    have good : rT N J (fS0 F (wtR (s_z k) (s_r k) f (F 0) m)) (wtM (s_z k) (s_r k) f g m) pe hv ∧ thK N J (fS0 F (wtR (s_z k) (s_r k) f (F 0) m)) ∧ ∀ q, 44 ≤ q → wtM (s_z k) (s_r k) f g m q = g q := ⟨rT_w hR (fun q hq => (w1 q hq).1) w2, thK_w hK (fun q hq => (w1 q hq).2), fun q hq => w2 q (by omega)⟩
    rcases x1 with ⟨a1, a2, a3, a4, a5⟩ | ⟨a1, a4, a5⟩ | ⟨a1, a2, a4, a5⟩ <;> rcases y1 with ⟨b1, b2, b3, b4, b5⟩ | ⟨b1, b4, b5⟩ | ⟨b1, b2, b4, b5⟩
    · subst a5 b5; exact ⟨by rw [a4, b4], rfl, hR, hK, fun _ _ => rfl⟩
    · omega
    · exact absurd a2 b2
    · omega
    · subst a5 b5; exact ⟨by rw [a4, b4], rfl, good⟩
    · omega
    · exact absurd b2 a2
    · omega
    · subst a5 b5; exact ⟨by rw [a4, b4], rfl, good⟩
/-- text -/
theorem cTX_0 {f : Nat → Int32} {len : Nat} {F : Nat → Nat → Int32} (h : (cTX f len F).1 = 0) : badP ((cTB f len F).1.2.2.1 2) (hLt (cTB f len F).1.2.2.2.2) (hHv (cTB f len F).1.2.2.2.2) ((cTB f len F).1.2.2.1 3) = false ∧ ¬ Wm ((cTB f len F).1.2.2.1 2) (hAh (hLt (cTB f len F).1.2.2.2.2) (hHv (cTB f len F).1.2.2.2.2) ((cTB f len F).1.2.2.1 3)) ((cTB f len F).1.2.2.1 2) (2 ^ (cTB f len F).1.2.2.1 2 - 1) = 0 := by
  unfold cTX at h
  by_cases e : (cTB f len F).1.1.1 = 0
  · rw [if_pos e] at h
    exact cCC_0 h
  · rw [if_neg e] at h
    exact absurd h e
theorem R_text {N N2 : Nat → Nat} {J J2 : Nat → Int32} {F F2 dF : Nat → Nat → Int32} {f g w : Nat → Int32} {len pe hv pe2 hv2 : Nat} {hg : Int32} (hR : rT N J F g pe hv) (hK : thK N J F) (hx : (cTX f len dF).1 = 0) (e1 : N2 = (cTB f len dF).1.2.2.1) (e2 : J2 = (cTB f len dF).1.2.2.2.1) (e3 : cpQ (cTB f len dF).1.2.2.2.2 F2) (hN : thN (cTB f len dF).1.2.2.1) (hF : thF (cTB f len dF).1.2.2.1 (cTB f len dF).1.2.2.2.2) (hB : thB (cTB f len dF).1.2.2.1 (cTB f len dF).1.2.2.2.1 (cTB f len dF).1.2.2.2.2) (hr : rDr (cTB f len dF).1.2.2.1 (cTB f len dF).1.2.2.2.1 (cTB f len dF).1.2.2.2.2 w pe2 hv2 hg) (h2 : ∃ c : Nat, w 0 = nI c ∧ 2 ≤ c ∧ c ≤ 8) : rT N2 J2 F2 w pe2 hv2 ∧ thK N2 J2 F2 := by
  subst e1 e2
  obtain ⟨c, ec, hc2, hc8⟩ := h2
  have hx0 := cTX_0 hx
  obtain ⟨a, b, c1, d, e, ⟨f1, f2⟩, -⟩ := hr
  have I := hN
  obtain ⟨I0, -, -, -, -⟩ := I
  have e0 : (cTB f len dF).1.2.2.1 0 = c := (nI_eq (by omega) (by omega)).mp (a.1.symm.trans ec)
  have hT : rT (cTB f len dF).1.2.2.1 (cTB f len dF).1.2.2.2.1 (cTB f len dF).1.2.2.2.2 w pe2 hv2 := ⟨a, b, c1, d, e, ⟨f1, fun j hj => absurd hj (by rw [f2]; exact Nat.not_lt_zero j)⟩⟩
  have hTK : thK (cTB f len dF).1.2.2.1 (cTB f len dF).1.2.2.2.1 (cTB f len dF).1.2.2.2.2 := ⟨hN, hF, by omega, hB, (badP_iff _).mp hx0.1, hx0.2, fun i hi => absurd hi (by rw [f2]; exact Nat.not_lt_zero i)⟩
  exact ⟨cp_rT hN hT e3, cp_thK hTK e3⟩
theorem R_textAll {N N2 a b : Nat → Nat} {J J2 aJ bJ : Nat → Int32} {F F2 aF bF dF : Nat → Nat → Int32} {f g w it it2 kf kf2 : Nat → Int32} {len pe hv pe2 hv2 : Nat} (hR : rT N J F g pe hv) (hK : thK N J F) (h0 : rI (it 0) (kf 0) a aJ aF (fun q => g (44 + q)) pe hv) (h1 : rI (it 1) (kf 1) b bJ bF (fun q => g (88 + q)) pe hv)
    (c3 : (cTX f len dF).1 = 0 → (N2 = (cTB f len dF).1.2.2.1 ∧ J2 = (cTB f len dF).1.2.2.2.1 ∧ (∀ q i, i < hs7 q → F2 q i = (cTB f len dF).1.2.2.2.2 q i) ∧ ∀ k, k < 2 → it2 k = 0)) (c4 : ¬ (cTX f len dF).1 = 0 → ((N2, J2, F2) = (N, J, F) ∧ it2 = it)) (hs : thN (cTB f len dF).1.2.2.1 ∧ thF (cTB f len dF).1.2.2.1 (cTB f len dF).1.2.2.2.2 ∧ thB (cTB f len dF).1.2.2.1 (cTB f len dF).1.2.2.2.1 (cTB f len dF).1.2.2.2.2)
    (m3 : (cTX f len dF).1 = 0 → ((∃ hg : Int32, rDr (cTB f len dF).1.2.2.1 (cTB f len dF).1.2.2.2.1 (cTB f len dF).1.2.2.2.2 w pe2 hv2 hg) ∧ kf2 0 = 0 ∧ kf2 1 = 0)) (m4 : ¬ (cTX f len dF).1 = 0 → (w = g ∧ kf2 = kf ∧ pe2 = pe ∧ hv2 = hv)) (m5 : (w = g ∧ kf2 = kf ∧ pe2 = pe ∧ hv2 = hv) ∨ (rfS w ∧ kf2 0 = 0 ∧ kf2 1 = 0 ∧ pe2 ≤ 4 ∧ 2 ≤ hv2 ∧ hv2 ≤ 5)) : rT N2 J2 F2 w pe2 hv2 ∧ thK N2 J2 F2 ∧ rI (it2 0) (kf2 0) a aJ aF (fun q => w (44 + q)) pe2 hv2 ∧ rI (it2 1) (kf2 1) b bJ bF (fun q => w (88 + q)) pe2 hv2 := by
  by_cases hx : (cTX f len dF).1 = 0
  · obtain ⟨e1, e2, e3, e4⟩ := c3 hx
    obtain ⟨⟨hg, hr⟩, e5, e6⟩ := m3 hx
    have hc : ∃ c : Nat, w 0 = nI c ∧ 2 ≤ c ∧ c ≤ 8 := by
      rcases m5 with h9 | h9
      · rw [h9.1]; exact ⟨N 0, hR.1.1, hK.2.2.1, hK.1.1⟩
      · obtain ⟨c0, -, -, -, z0, z2, z8, -⟩ := h9.1
        exact ⟨c0, z0, z2, z8⟩
    have h9 := R_text hR hK hx e1 e2 e3 hs.1 hs.2.1 hs.2.2 hr hc
    exact ⟨h9.1, h9.2, Or.inl ⟨e4 0 (by decide), e5⟩, Or.inl ⟨e4 1 (by decide), e6⟩⟩
  · obtain ⟨e1, e2⟩ := c4 hx
    obtain ⟨e3, e4, e5, e6⟩ := m4 hx
    obtain ⟨e7, e8⟩ := Prod.mk.inj e1
    obtain ⟨e9, e10⟩ := Prod.mk.inj e8
    subst e7 e9 e10 e2 e3 e4 e5 e6
    exact ⟨hR, hK, h0, h1⟩
