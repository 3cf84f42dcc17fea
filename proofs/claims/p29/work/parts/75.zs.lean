-- THE RELATION of the class's state (N, J, F) and the reference's block (g, people, halves)
def rT (N : Nat → Nat) (J : Nat → Int32) (F : Nat → Nat → Int32) (g : Nat → Int32) (pe hm : Nat) : Prop :=
  (g 0 = nI (N 0) ∧ ∀ j, j < N 0 → g (1 + j) = F 0 j) ∧ (pe = N 1 ∧ ∀ j, j < N 1 → g (9 + j) = F 1 j) ∧ (g 13 = J 0 ∧ g 14 = J 1 ∧ g 15 = J 2) ∧ hm = N 2 ∧ (g 16 = nI (N 3) ∧ ∀ j, j < N 3 → g (17 + j) = 10 * F 2 j + F 3 j) ∧ (g 25 = nI (N 4) ∧ ∀ j, j < N 4 → (g (26 + 3 * j) = F 4 j ∧ g (26 + 3 * j + 1) = F 5 j ∧ g (26 + 3 * j + 2) = F 6 j))
/-- what a Thing that is kept keeps -/
def thK (N : Nat → Nat) (J : Nat → Int32) (F : Nat → Nat → Int32) : Prop :=
  thN N ∧ thF N F ∧ 2 ≤ N 0 ∧ thB N J F ∧ (∀ i, i < N 3 → (hLt F i < N 2 ∧ hHv F i < N 2)) ∧ (¬ Wm (N 2) (hAh (hLt F) (hHv F) (N 3)) (N 2) (2 ^ N 2 - 1) = 0) ∧ ∀ i, i < N 4 → ((∃ k : Nat, 1 ≤ k ∧ k < 8 ∧ F 5 i = nI k) ∧ vp_in (F 6 i) 3 ∧ ∃ p : Nat, p < N 1 ∧ F 4 i = nI p)
def rI (it kf : Int32) (N : Nat → Nat) (J : Nat → Int32) (F : Nat → Nat → Int32) (g : Nat → Int32) (pe hm : Nat) : Prop := (it = 0 ∧ kf = 0) ∨ (it = 1 ∧ kf = 1 ∧ rT N J F g pe hm ∧ thK N J F)
theorem rT_eq {N : Nat → Nat} {J : Nat → Int32} {F : Nat → Nat → Int32} {g g2 : Nat → Int32} {pe hm : Nat} (hN : thN N) (h : rT N J F g pe hm) (e : ∀ q, q < 44 → g2 q = g q) : rT N J F g2 pe hm := by
  obtain ⟨⟨a1, a2⟩, ⟨b1, b2⟩, ⟨c1, c2, c3⟩, d1, ⟨e1, e2⟩, ⟨f1, f2⟩⟩ := h
  obtain ⟨I0, I1, -, I3, I4⟩ := hN
  exact ⟨⟨(e 0 (by decide)).trans a1, fun j hj => (e _ (by omega)).trans (a2 j hj)⟩, ⟨b1, fun j hj => (e _ (by omega)).trans (b2 j hj)⟩, ⟨(e _ (by decide)).trans c1, (e _ (by decide)).trans c2, (e _ (by decide)).trans c3⟩, d1, ⟨(e _ (by decide)).trans e1, fun j hj => (e _ (by omega)).trans (e2 j hj)⟩, ⟨(e _ (by decide)).trans f1, fun j hj => ⟨(e _ (by omega)).trans (f2 j hj).1, (e _ (by omega)).trans (f2 j hj).2.1, (e _ (by omega)).trans (f2 j hj).2.2⟩⟩⟩
theorem rI_eq {it kf : Int32} {N : Nat → Nat} {J : Nat → Int32} {F : Nat → Nat → Int32} {g g2 : Nat → Int32} {pe hm : Nat} (h : rI it kf N J F g pe hm) (e : ∀ q, q < 44 → g2 q = g q) : rI it kf N J F g2 pe hm := by
  rcases h with h | ⟨h1, h2, h3, h4⟩
  · exact Or.inl h
  · exact Or.inr ⟨h1, h2, rT_eq h4.1 h3 e, h4⟩
/-- the class's rows copied -/
theorem cp_rT {N : Nat → Nat} {J : Nat → Int32} {F G : Nat → Nat → Int32} {g : Nat → Int32} {pe hm : Nat} (hN : thN N) (h : rT N J F g pe hm) (e : cpQ F G) : rT N J G g pe hm := by
  obtain ⟨⟨a1, a2⟩, ⟨b1, b2⟩, c1, d1, ⟨e1, e2⟩, ⟨f1, f2⟩⟩ := h
  obtain ⟨I0, I1, -, I3, I4⟩ := hN
  refine ⟨⟨a1, fun j hj => (a2 j hj).trans (e 0 j (show j < 8 by omega)).symm⟩, ⟨b1, fun j hj => (b2 j hj).trans (e 1 j (show j < 4 by omega)).symm⟩, c1, d1, ⟨e1, fun j hj => ?_⟩, ⟨f1, fun j hj => ⟨(f2 j hj).1.trans (e 4 j (show j < 6 by omega)).symm, (f2 j hj).2.1.trans (e 5 j (show j < 6 by omega)).symm, (f2 j hj).2.2.trans (e 6 j (show j < 6 by omega)).symm⟩⟩⟩
  rw [e2 j hj, e 2 j (show j < 8 by omega), e 3 j (show j < 8 by omega)]
theorem cp_thB {N : Nat → Nat} {J : Nat → Int32} {F G : Nat → Nat → Int32} (hN : thN N) (h : thB N J F) (e : cpQ F G) : thB N J G := by
  obtain ⟨b1, b2, b3, b4, b5⟩ := h
  obtain ⟨I0, I1, -, I3, I4⟩ := hN
  exact ⟨fun j hj => by rw [e 0 j (show j < 8 by omega)]; exact b1 j hj, fun j hj => by rw [e 1 j (show j < 4 by omega)]; exact b2 j hj, b3, b4, fun j hj => by rw [e 2 j (show j < 8 by omega), e 3 j (show j < 8 by omega)]; exact b5 j hj⟩
theorem cp_pr {N : Nat → Nat} {F G : Nat → Nat → Int32} (hN : thN N) (e : cpQ F G) : ∀ i, i < N 3 → (hLt F i = hLt G i ∧ hHv F i = hHv G i) := by
  obtain ⟨I0, I1, -, I3, I4⟩ := hN
  intro i hi
  unfold hLt hHv
  rw [e 2 i (show i < 8 by omega), e 3 i (show i < 8 by omega)]
  exact ⟨rfl, rfl⟩
theorem cp_ah {N : Nat → Nat} {F G : Nat → Nat → Int32} (hN : thN N) (e : cpQ F G) : hAh (hLt G) (hHv G) (N 3) = hAh (hLt F) (hHv F) (N 3) := by
  funext h
  exact hAh_congr _ (fun k hk => ⟨(cp_pr hN e k hk).1.symm, (cp_pr hN e k hk).2.symm⟩)
theorem cp_thK {N : Nat → Nat} {J : Nat → Int32} {F G : Nat → Nat → Int32} (h : thK N J F) (e : cpQ F G) : thK N J G := by
  obtain ⟨hN, hF, h2, hB, hp, hW, hs⟩ := h
  have hI := hN
  obtain ⟨I0, I1, -, I3, I4⟩ := hI
  refine ⟨hN, ⟨fun i hi => by rw [e 3 i (show i < 8 by omega)]; exact hF.1 i hi, fun i hi => by rw [e 4 i (show i < 6 by omega)]; exact hF.2 i hi⟩, h2, cp_thB hN hB e, fun i hi => ?_, ?_, fun i hi => ?_⟩
  · rw [← (cp_pr hN e i hi).1, ← (cp_pr hN e i hi).2]; exact hp i hi
  · rw [cp_ah hN e]; exact hW
  · rw [e 4 i (show i < 6 by omega), e 5 i (show i < 6 by omega), e 6 i (show i < 6 by omega)]; exact hs i hi
/-- the WEIGHTS (and how many) become others -/
def fS0 (F : Nat → Nat → Int32) (u : Nat → Int32) : Nat → Nat → Int32 := fun j => ([u, F 1, F 2, F 3, F 4, F 5, F 6] : List (Nat → Int32)).getD j hsz
def fS1 (F : Nat → Nat → Int32) (u : Nat → Int32) : Nat → Nat → Int32 := fun j => ([F 0, u, F 2, F 3, F 4, F 5, F 6] : List (Nat → Int32)).getD j hsz
def nS0 (N : Nat → Nat) (c : Nat) : Nat → Nat := fun j => ([c, N 1, N 2, N 3, N 4] : List Nat).getD j 0
theorem rT_w {N : Nat → Nat} {J : Nat → Int32} {F : Nat → Nat → Int32} {g g2 u : Nat → Int32} {pe hm : Nat} (h : rT N J F g pe hm) (hu : ∀ q, q < N 0 → g2 (1 + q) = u q) (ho : ∀ q, ¬ (1 ≤ q ∧ q ≤ 8) → g2 q = g q) : rT N J (fS0 F u) g2 pe hm := by
  obtain ⟨⟨a1, a2⟩, ⟨b1, b2⟩, ⟨c1, c2, c3⟩, d1, ⟨e1, e2⟩, ⟨f1, f2⟩⟩ := h
  exact ⟨⟨(ho 0 (by omega)).trans a1, hu⟩, ⟨b1, fun j hj => (ho _ (by omega)).trans (b2 j hj)⟩, ⟨(ho _ (by omega)).trans c1, (ho _ (by omega)).trans c2, (ho _ (by omega)).trans c3⟩, d1, ⟨(ho _ (by omega)).trans e1, fun j hj => (ho _ (by omega)).trans (e2 j hj)⟩, ⟨(ho _ (by omega)).trans f1, fun j hj => ⟨(ho _ (by omega)).trans (f2 j hj).1, (ho _ (by omega)).trans (f2 j hj).2.1, (ho _ (by omega)).trans (f2 j hj).2.2⟩⟩⟩
theorem rT_c {N : Nat → Nat} {J : Nat → Int32} {F : Nat → Nat → Int32} {g g2 u : Nat → Int32} {pe hm c : Nat} (h : rT N J F g pe hm) (h0 : g2 0 = nI c) (hu : ∀ q, q < c → g2 (1 + q) = u q) (ho : ∀ q, 9 ≤ q → g2 q = g q) : rT (nS0 N c) J (fS0 F u) g2 pe hm := by
  obtain ⟨⟨a1, a2⟩, ⟨b1, b2⟩, ⟨c1, c2, c3⟩, d1, ⟨e1, e2⟩, ⟨f1, f2⟩⟩ := h
  exact ⟨⟨h0, hu⟩, ⟨b1, fun j hj => (ho _ (by omega)).trans (b2 j hj)⟩, ⟨(ho _ (by omega)).trans c1, (ho _ (by omega)).trans c2, (ho _ (by omega)).trans c3⟩, d1, ⟨(ho _ (by omega)).trans e1, fun j hj => (ho _ (by omega)).trans (e2 j hj)⟩, ⟨(ho _ (by omega)).trans f1, fun j hj => ⟨(ho _ (by omega)).trans (f2 j hj).1, (ho _ (by omega)).trans (f2 j hj).2.1, (ho _ (by omega)).trans (f2 j hj).2.2⟩⟩⟩
theorem thK_w {N : Nat → Nat} {J : Nat → Int32} {F : Nat → Nat → Int32} {u : Nat → Int32} (h : thK N J F) (hu : ∀ j, j < N 0 → vp_in (u j) 10) : thK N J (fS0 F u) := by
  obtain ⟨hN, hF, h2, ⟨b1, b2, b3, b4, b5⟩, hp, hW, hs⟩ := h
  exact ⟨hN, ⟨hF.1, hF.2⟩, h2, ⟨hu, b2, b3, b4, b5⟩, hp, hW, hs⟩
theorem thK_c {N : Nat → Nat} {J : Nat → Int32} {F : Nat → Nat → Int32} {u : Nat → Int32} {c : Nat} (h : thK N J F) (h2 : 2 ≤ c) (h8 : c ≤ 8) (hu : ∀ j, j < c → vp_in (u j) 10) : thK (nS0 N c) J (fS0 F u) := by
  obtain ⟨⟨I0, I1, I2, I3, I4⟩, hF, -, ⟨b1, b2, b3, b4, b5⟩, hp, hW, hs⟩ := h
  exact ⟨⟨h8, I1, I2, I3, I4⟩, ⟨hF.1, hF.2⟩, h2, ⟨hu, b2, b3, b4, b5⟩, hp, hW, hs⟩
theorem hs_tf {b : Bool} {P : Prop} (h : b = true) (h2 : b = false) : P := by rw [h] at h2; cases h2
theorem fS0_id {N : Nat → Nat} {J : Nat → Int32} {F : Nat → Nat → Int32} {g : Nat → Int32} {pe hm : Nat} (h : rT N J F g pe hm) : rT N J (fS0 F (F 0)) g pe hm := h
theorem fS0_idK {N : Nat → Nat} {J : Nat → Int32} {F : Nat → Nat → Int32} (h : thK N J F) : thK N J (fS0 F (F 0)) := h
theorem nS0_id {N : Nat → Nat} {J : Nat → Int32} {F : Nat → Nat → Int32} {g : Nat → Int32} {pe hm : Nat} (h : rT N J F g pe hm) : rT (nS0 N (N 0)) J (fS0 F (F 0)) g pe hm := h
theorem nS0_idK {N : Nat → Nat} {J : Nat → Int32} {F : Nat → Nat → Int32} (h : thK N J F) : thK (nS0 N (N 0)) J (fS0 F (F 0)) := h
theorem R_weigh {N : Nat → Nat} {J : Nat → Int32} {F : Nat → Nat → Int32} {g u w : Nat → Int32} {pe hv : Nat} {i v rc rm : Int32} (hR : rT N J F g pe hv) (hK : thK N J F) (hc : cWg (N 0) (F 0) i v rc u) (hm : mWg (N 0) g i v rm w) : rc = rm ∧ rT N J (fS0 F u) w pe hv ∧ thK N J (fS0 F u) ∧ ∀ q, 44 ≤ q → w q = g q := by
  have I0 := hK.1.1
  rcases hc with ⟨x1, x2, x3⟩ | ⟨x1, x2, x3⟩ <;> rcases hm with ⟨y1, y2, y3⟩ | ⟨y1, y2, y3⟩
  · obtain ⟨j, hj, ej⟩ := hslt_ex (hs_and1 x1)
    obtain ⟨x, -, hx, ex⟩ := hs_rng (lo := 0) (hi := 9) (by decide) (by decide) (hs_and2 x1)
    rw [ej, nI_clamp (by omega)] at x2 x3 y2 y3
    subst x3 y3
    refine ⟨by rw [x2, y2]; exact (hR.1.2 j hj).symm, rT_w hR (fun q hq => ?_) (fun q hq => hs_un (by omega)), thK_w hK (fun q hq => ?_), fun q hq => hs_un (by omega)⟩
    · by_cases e : q = j
      · rw [hs_uq (by omega), hs_uq e]
      · rw [hs_un (by omega), hs_un e]; exact hR.1.2 q hq
    · by_cases e : q = j
      · rw [hs_uq e, ex]; exact vp_in_nI (by omega) (by decide)
      · rw [hs_un e]; exact hK.2.2.2.1.1 q hq
  · exact hs_tf x1 y1
  · exact hs_tf y1 x1
  · subst x3 y3
    exact ⟨by rw [x2, y2], hR, hK, fun _ _ => rfl⟩
theorem R_teach {N : Nat → Nat} {J : Nat → Int32} {F : Nat → Nat → Int32} {g u w : Nat → Int32} {pe hv : Nat} {i v rc rm : Int32} (hR : rT N J F g pe hv) (hK : thK N J F) (hc : cTe (N 1) (F 1) i v rc u) (hm : mTe pe g i v rm w) : rc = rm ∧ rT N J (fS1 F u) w pe hv ∧ thK N J (fS1 F u) ∧ ∀ q, 44 ≤ q → w q = g q := by
  have I1 := hK.1.2.1
  have I0 := hK.1.1
  have hpe := hR.2.1.1
  subst hpe
  rcases hc with ⟨x1, x2, x3⟩ | ⟨x1, x2, x3⟩ <;> rcases hm with ⟨y1, y2, y3⟩ | ⟨y1, y2, y3⟩
  · obtain ⟨j, hj, ej⟩ := hslt_ex (hs_and1 x1)
    obtain ⟨x, -, hx, ex⟩ := hs_rng (lo := 0) (hi := 3) (by decide) (by decide) (hs_and2 x1)
    rw [ej, nI_clamp (by omega)] at x2 x3 y2 y3
    subst x3 y3
    obtain ⟨⟨a1, a2⟩, ⟨b1, b2⟩, ⟨c1, c2, c3⟩, d1, ⟨e1, e2⟩, ⟨f1, f2⟩⟩ := hR
    have ho : ∀ q, ¬ (9 ≤ q ∧ q ≤ 12) → upd g (9 + j) v q = g q := fun q hq => hs_un (by omega)
    obtain ⟨hN, hF, h2, ⟨k1, k2, k3, k4, k5⟩, hp, hW, hs⟩ := hK
    refine ⟨by rw [x2, y2]; exact (b2 j hj).symm, ⟨⟨(ho _ (by omega)).trans a1, fun q hq => (ho _ (by omega)).trans (a2 q hq)⟩, ⟨rfl, fun q hq => ?_⟩, ⟨(ho _ (by omega)).trans c1, (ho _ (by omega)).trans c2, (ho _ (by omega)).trans c3⟩, d1, ⟨(ho _ (by omega)).trans e1, fun j hj => (ho _ (by omega)).trans (e2 j hj)⟩, ⟨(ho _ (by omega)).trans f1, fun j hj => ⟨(ho _ (by omega)).trans (f2 j hj).1, (ho _ (by omega)).trans (f2 j hj).2.1, (ho _ (by omega)).trans (f2 j hj).2.2⟩⟩⟩, ⟨hN, ⟨hF.1, hF.2⟩, h2, ⟨k1, fun q hq => ?_, k3, k4, k5⟩, hp, hW, hs⟩, fun q hq => ho q (by omega)⟩
    · show upd g (9 + j) v (9 + q) = upd (F 1) j v q
      by_cases e : q = j
      · rw [hs_uq (by omega), hs_uq e]
      · rw [hs_un (by omega), hs_un e]; exact b2 q hq
    · show vp_in (upd (F 1) j v q) 4
      by_cases e : q = j
      · rw [hs_uq e, ex]; exact vp_in_nI (by omega) (by decide)
      · rw [hs_un e]; exact k2 q hq
  · exact hs_tf x1 y1
  · exact hs_tf y1 x1
  · subst x3 y3
    exact ⟨by rw [x2, y2], hR, hK, fun _ _ => rfl⟩
theorem spM_o {s : Nat → Int32} {c i q : Nat} (hc : c ≤ 7) (hi : i < c) (hq : 9 ≤ q) : spM s c i q = s q := by
  unfold spM
  rw [hs_un (by omega), hs_un (by omega), hs_un (by omega), shf_out (by omega)]
theorem spM_0 {s : Nat → Int32} {c i : Nat} : spM s c i 0 = nI (c + 1) := hs_uq rfl
theorem sp_w {s w : Nat → Int32} {c i : Nat} (hc : c ≤ 7) (hi : i < c) (h : ∀ q, q < c → s (1 + q) = w q) (hb : ∀ q, q < c → vp_in (w q) 10) : ∀ q, q < c + 1 → (spM s c i (1 + q) = spW w c i q ∧ vp_in (spW w c i q) 10) := by
  intro q hq
  obtain ⟨x, hx, ex⟩ := vp_in_of (hb i hi) (by decide)
  have jh := j_half x hx
  unfold spM spW
  rw [hs_un (by omega)]
  by_cases e1 : q = i + 1
  · rw [hs_uq (by omega), hs_uq e1, h i hi, ex]
    exact ⟨jh.2.1.symm, by rw [jh.2.1]; exact jh.2.2.2⟩
  · rw [hs_un (by omega), hs_un e1]
    by_cases e2 : q = i
    · rw [hs_uq (by omega), hs_uq e2, h i hi, ex]
      exact ⟨jh.1.symm, jh.2.2.1⟩
    · rw [hs_un (by omega), hs_un e2]
      by_cases e3 : q < i
      · rw [shf_lo (by omega), shf_lo (by omega)]
        exact ⟨h q (by omega), hb q (by omega)⟩
      · rw [shf_hi (by omega) (by omega), shf_hi (by omega) (by omega), show 1 + q - 1 = 1 + (q - 1) by omega]
        exact ⟨h (q - 1) (by omega), hb (q - 1) (by omega)⟩
theorem R_split {N : Nat → Nat} {J : Nat → Int32} {F : Nat → Nat → Int32} {g w : Nat → Int32} {pe hv : Nat} {i rc rm : Int32} {u : Nat × (Nat → Int32)} (hR : rT N J F g pe hv) (hK : thK N J F) (hc : cSp (N 0) (F 0) i rc u) (hm : mSp (N 0) g i rm w) : rc = rm ∧ rT (nS0 N u.1) J (fS0 F u.2) w pe hv ∧ thK (nS0 N u.1) J (fS0 F u.2) ∧ ∀ q, 44 ≤ q → w q = g q := by
  rcases hc with ⟨x1, x2, x3⟩ | ⟨x1, x0, x2, x3⟩ | ⟨x1, x0, x2, x3⟩ <;> rcases hm with ⟨y1, y2, y3⟩ | ⟨y1, y0, y2, y3⟩ | ⟨y1, y0, y2, y3⟩
  · subst x3 y3; exact ⟨by rw [x2, y2], hR, hK, fun _ _ => rfl⟩
  · exact hs_tf y1 x1
  · exact hs_tf y1 x1
  · exact hs_tf x1 y1
  · subst x3 y3; exact ⟨by rw [x2, y2], hR, hK, fun _ _ => rfl⟩
  · exact absurd y0 (by omega)
  · exact hs_tf x1 y1
  · exact absurd x0 (by omega)
  · obtain ⟨j, hj, ej⟩ := hslt_ex x1
    rw [ej, nI_clamp (by omega)] at x3 y3
    subst x3 y3
    have h2 := hK.2.2.1
    have hw := sp_w (by omega) hj hR.1.2 hK.2.2.2.1.1
    exact ⟨by rw [x2, y2], rT_c hR spM_0 (fun q hq => (hw q hq).1) (fun q hq => spM_o (by omega) hj hq), thK_c hK (show 2 ≤ N 0 + 1 by omega) (show N 0 + 1 ≤ 8 by omega) (fun q hq => (hw q hq).2), fun q hq => spM_o (by omega) hj (by omega)⟩
theorem jnM_o {s : Nat → Int32} {c i q : Nat} (hc : c ≤ 8) (hi : i + 1 < c) (hq : 9 ≤ q) : jnM s c i q = s q := by
  unfold jnM
  rw [shl_out (by omega), hs_un (by omega), hs_un (by omega)]
theorem jnM_0 {s : Nat → Int32} {c i : Nat} : jnM s c i 0 = nI (c - 1) := by
  unfold jnM
  rw [shl_out (by omega), hs_uq rfl]
theorem jn_w {s w : Nat → Int32} {c i : Nat} (hc : c ≤ 8) (hi : i + 1 < c) (h : ∀ q, q < c → s (1 + q) = w q) (hb : ∀ q, q < c → vp_in (w q) 10) : ∀ q, q < c - 1 → (jnM s c i (1 + q) = jnW w c i q ∧ vp_in (jnW w c i q) 10) := by
  intro q hq
  obtain ⟨x, hx, ex⟩ := vp_in_of (hb i (by omega)) (by decide)
  obtain ⟨y, hy, ey⟩ := vp_in_of (hb (i + 1) hi) (by decide)
  obtain ⟨jm, z, hz, ez⟩ := j_min x hx y hy
  unfold jnM jnW
  by_cases e1 : i + 1 ≤ q
  · rw [shl_in (by omega) (by omega), shl_in e1 hq, hs_un (by omega), hs_un (by omega), hs_un (by omega), show 1 + q + 1 = 1 + (q + 1) by omega]
    exact ⟨h (q + 1) (by omega), hb (q + 1) (by omega)⟩
  · rw [shl_out (by omega), shl_out (by omega), hs_un (by omega)]
    by_cases e2 : q = i
    · rw [hs_uq (by omega), hs_uq e2, show 1 + i + 1 = 1 + (i + 1) by omega, h i (by omega), h (i + 1) hi, ex, ey]
      exact ⟨jm.symm, by rw [ez]; exact vp_in_nI hz (by decide)⟩
    · rw [hs_un (by omega), hs_un e2]
      exact ⟨h q (by omega), hb q (by omega)⟩
theorem R_join {N : Nat → Nat} {J : Nat → Int32} {F : Nat → Nat → Int32} {g w : Nat → Int32} {pe hv : Nat} {i rc rm : Int32} {u : Nat × (Nat → Int32)} (hR : rT N J F g pe hv) (hK : thK N J F) (hc : cJn (N 0) (F 0) i rc u) (hm : mJn (N 0) g i rm w) : rc = rm ∧ rT (nS0 N u.1) J (fS0 F u.2) w pe hv ∧ thK (nS0 N u.1) J (fS0 F u.2) ∧ ∀ q, 44 ≤ q → w q = g q := by
  have I0 := hK.1.1
  rcases hc with ⟨x1, x2, x3⟩ | ⟨j, hj, ej, x1⟩ <;> rcases hm with ⟨y1, y2, y3⟩ | ⟨j2, hj2, ej2, y1⟩
  · subst x3 y3; exact ⟨by rw [x2, y2], hR, hK, fun _ _ => rfl⟩
  · exact absurd ⟨j2, hj2, ej2⟩ x1
  · exact absurd ⟨j, hj, ej⟩ y1
  · have e : j = j2 := (nI_eq (by omega) (by omega)).mp (ej.symm.trans ej2)
    subst e
    rcases x1 with ⟨x0, x2, x3⟩ | ⟨x0, x2, x3⟩ <;> rcases y1 with ⟨y0, y2, y3⟩ | ⟨y0, y2, y3⟩
    · subst x3 y3; exact ⟨by rw [x2, y2], hR, hK, fun _ _ => rfl⟩
    · exact absurd y0 (by omega)
    · exact absurd x0 (by omega)
    · subst x3 y3
      have hw := jn_w I0 hj hR.1.2 hK.2.2.2.1.1
      exact ⟨by rw [x2, y2], rT_c hR jnM_0 (fun q hq => (hw q hq).1) (fun q hq => jnM_o I0 hj hq), thK_c hK (show 2 ≤ N 0 - 1 by omega) (show N 0 - 1 ≤ 8 by omega) (fun q hq => (hw q hq).2), fun q hq => jnM_o I0 hj (by omega)⟩
/-- SLIP, FINE, APPEALS -/
def jS (a b c : Int32) : Nat → Int32 := fun j => ([a, b, c] : List (Int32)).getD j 0
theorem rT_j {N : Nat → Nat} {J : Nat → Int32} {F : Nat → Nat → Int32} {g g2 : Nat → Int32} {pe hv : Nat} {a b c : Int32} (h : rT N J F g pe hv) (hN : thN N) (h1 : g2 13 = a) (h2 : g2 14 = b) (h3 : g2 15 = c) (ho : ∀ q, ¬ (13 ≤ q ∧ q ≤ 15) → g2 q = g q) : rT N (jS a b c) F g2 pe hv := by
  obtain ⟨⟨a1, a2⟩, ⟨b1, b2⟩, -, d1, ⟨e1, e2⟩, ⟨f1, f2⟩⟩ := h
  obtain ⟨I0, I1, -, I3, I4⟩ := hN
  exact ⟨⟨(ho 0 (by omega)).trans a1, fun j hj => (ho _ (by omega)).trans (a2 j hj)⟩, ⟨b1, fun j hj => (ho _ (by omega)).trans (b2 j hj)⟩, ⟨h1, h2, h3⟩, d1, ⟨(ho _ (by omega)).trans e1, fun j hj => (ho _ (by omega)).trans (e2 j hj)⟩, ⟨(ho _ (by omega)).trans f1, fun j hj => ⟨(ho _ (by omega)).trans (f2 j hj).1, (ho _ (by omega)).trans (f2 j hj).2.1, (ho _ (by omega)).trans (f2 j hj).2.2⟩⟩⟩
theorem thK_j {N : Nat → Nat} {J : Nat → Int32} {F : Nat → Nat → Int32} {a b c : Int32} (h : thK N J F) (h1 : vp_in a 10) (h2 : vp_in b 100) : thK N (jS a b c) F := by
  obtain ⟨hN, hF, h3, ⟨k1, k2, -, -, k5⟩, hp, hW, hs⟩ := h
  exact ⟨hN, hF, h3, ⟨k1, k2, h1, h2, k5⟩, hp, hW, hs⟩
theorem hs_vr {v : Int32} {hi : Nat} (hh : hi < 2 ^ 30) (h : hsin v 0 (nI hi) = true) : vp_in v (hi + 1) := by
  obtain ⟨j, -, hj, e⟩ := hs_rng (lo := 0) (hi := hi) hh (Nat.zero_le _) h
  rw [e]
  exact vp_in_nI (by omega) (by omega)
theorem R_set {N : Nat → Nat} {J : Nat → Int32} {F : Nat → Nat → Int32} {g w : Nat → Int32} {pe hv : Nat} {what v rc rm : Int32} {u : Int32 × Int32} (hR : rT N J F g pe hv) (hK : thK N J F) (hc : cSe (J 0) (J 1) what v rc u) (hm : mSe g what v rm w) : rc = rm ∧ rT N (jS u.1 u.2 (J 2)) F w pe hv ∧ thK N (jS u.1 u.2 (J 2)) F ∧ ∀ q, 44 ≤ q → w q = g q := by
  obtain ⟨c1, c2, c3⟩ := hR.2.2.1
  have b3 := hK.2.2.2.1.2.2.1
  have b4 := hK.2.2.2.1.2.2.2.1
  rcases hc with ⟨x1, x2, x3, x4⟩ | ⟨x1, x2, x3, x4⟩ | ⟨x1, x2, x3, x4⟩ <;> rcases hm with ⟨y1, y2, y3, y4⟩ | ⟨y1, y2, y3, y4⟩ | ⟨y1, y2, y3, y4⟩
  · subst x4 y4
    exact ⟨by rw [x3, y3, c1], rT_j hR hK.1 (hs_uq rfl) ((hs_un (by decide)).trans c2) ((hs_un (by decide)).trans c3) (fun q hq => hs_un (by omega)), thK_j hK (hs_vr (hi := 9) (by decide) x2) b4, fun q hq => hs_un (by omega)⟩
  · exact absurd (x1.symm.trans y1) (by decide)
  · exact absurd ⟨x1, x2⟩ y1
  · exact absurd (x1.symm.trans y1) (by decide)
  · subst x4 y4
    exact ⟨by rw [x3, y3, c2], rT_j hR hK.1 ((hs_un (by decide)).trans c1) (hs_uq rfl) ((hs_un (by decide)).trans c3) (fun q hq => hs_un (by omega)), thK_j hK b3 (hs_vr (hi := 99) (by decide) x2), fun q hq => hs_un (by omega)⟩
  · exact absurd ⟨x1, x2⟩ y2
  · exact absurd ⟨y1, y2⟩ x1
  · exact absurd ⟨y1, y2⟩ x2
  · subst x4 y4
    exact ⟨by rw [x3, y3], rT_j hR hK.1 c1 c2 c3 (fun _ _ => rfl), thK_j hK b3 b4, fun _ _ => rfl⟩
theorem R_appeal {N : Nat → Nat} {J : Nat → Int32} {F : Nat → Nat → Int32} {g w : Nat → Int32} {pe hv : Nat} {rc rm : Int32} {u : Int32 × Int32} (hR : rT N J F g pe hv) (hK : thK N J F) (hc : cAp (J 1) (J 2) rc u) (hm : mAp g rm w) : rc = rm ∧ rT N (jS (J 0) u.1 u.2) F w pe hv ∧ thK N (jS (J 0) u.1 u.2) F ∧ ∀ q, 44 ≤ q → w q = g q := by
  obtain ⟨c1, c2, c3⟩ := hR.2.2.1
  have b3 := hK.2.2.2.1.2.2.1
  have b4 := hK.2.2.2.1.2.2.2.1
  obtain ⟨x, hx, ex⟩ := vp_in_of b4 (by decide)
  have ja := j_app x hx
  have e14 : g 14 = nI x := c2.trans ex
  unfold cAp at hc
  unfold mAp at hm
  rw [e14] at hm
  rw [ex] at hc
  rcases hc with ⟨x1, x2, x3⟩ | ⟨x1, x2, x3⟩ <;> rcases hm with ⟨y1, y2, y3⟩ | ⟨y1, y2, y3⟩
  · subst x3 y3
    exact ⟨by rw [x2, y2], rT_j hR hK.1 c1 (c2.trans ex) c3 (fun _ _ => rfl), thK_j hK b3 (by rw [← ex]; exact b4), fun _ _ => rfl⟩
  · exact absurd (ja.1.mpr y1) x1
  · exact absurd y1 (ja.1.mp x1)
  · subst x3 y3
    exact ⟨by rw [x2, y2, ja.2.1], rT_j hR hK.1 ((hs_un (by decide)).trans ((hs_un (by decide)).trans c1)) ((hs_un (by decide)).trans ((hs_uq rfl).trans ja.2.1.symm)) ((hs_uq rfl).trans (by rw [c3])) (fun q hq => (hs_un (by omega)).trans (hs_un (by omega))), thK_j hK b3 (by rw [ja.2.2]; exact vp_in_nI (by omega) (by decide)), fun q hq => (hs_un (by omega)).trans (hs_un (by omega))⟩
