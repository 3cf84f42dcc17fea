/-- what the reference finds at the first of two places -/
def g0R (la : Int32) (z : Nat) (lane p : Int32) : Int32 := if la = -1 then 1 else if ¬ lane = la then 3 else if hslt p z = true then 0 else 2
theorem g0R_0 {la : Int32} {z : Nat} {lane p : Int32} (h : g0R la z lane p = 0) : ¬ la = -1 ∧ lane = la ∧ hslt p z = true := by
  unfold g0R at h
  by_cases h1 : la = -1
  · rw [if_pos h1] at h; exact absurd h (by decide)
  · rw [if_neg h1] at h
    by_cases h2 : lane = la
    · rw [if_neg (fun z9 => z9 h2)] at h
      by_cases h3 : hslt p z = true
      · exact ⟨h1, h2, h3⟩
      · rw [if_neg h3] at h; exact absurd h (by decide)
    · rw [if_pos h2] at h; exact absurd h (by decide)
theorem g0R_n {la : Int32} {z : Nat} {lane p : Int32} (h : ¬ g0R la z lane p = 0) : fTw la z lane p = g0R la z lane p := by
  unfold g0R at h ⊢
  by_cases h1 : la = -1
  · rw [if_pos h1, fTw_nul h1]
  · rw [if_neg h1] at h ⊢
    by_cases h2 : lane = la
    · rw [if_neg (fun z9 => z9 h2)] at h ⊢
      by_cases h3 : hslt p z = true
      · rw [if_pos h3] at h; exact absurd rfl h
      · rw [if_neg h3, fTw_of0 h1 h2, fAt_out h1 h3, if_pos (by decide)]
    · rw [if_pos h2, fTw_cst h1 h2]
theorem fTw_g0 {la : Int32} {z : Nat} {lane p : Int32} (h : g0R la z lane p = 0) : fTw la z lane p = fAt la z (p + 1) := by
  have h9 := g0R_0 h
  rw [fTw_of0 h9.1 h9.2.1, fAt_in h9.1 h9.2.2, if_neg (by decide)]
theorem rSh_nul {s_la : Nat → Int32} {s_z : Nat → Nat} {s_r : Nat → Nat → Int32} {laf sif ce : Nat → Int32} (h : rSh s_la s_z s_r laf sif ce) {k : Nat} (hk : k < 4) (e : laf k = -4) : s_la k = -1 := by
  rcases h k hk with h9 | h9
  · exact h9.2
  · exact absurd (h9.1.symm.trans e) h9.2.2.1
theorem rSh_yes {s_la : Nat → Int32} {s_z : Nat → Nat} {s_r : Nat → Nat → Int32} {laf sif ce : Nat → Int32} (h : rSh s_la s_z s_r laf sif ce) {k : Nat} (hk : k < 4) (e : ¬ laf k = -4) : laf k = s_la k ∧ ¬ s_la k = -1 ∧ ¬ s_la k = -4 ∧ sif k = nI (s_z k) ∧ s_z k ≤ 40 ∧ ∀ i, i < 40 → ce (40 * k + i) = s_r k i := (h k hk).resolve_left (fun z => e z.1)
theorem rSh_la {s_la : Nat → Int32} {s_z : Nat → Nat} {s_r : Nat → Nat → Int32} {laf sif ce : Nat → Int32} (h : rSh s_la s_z s_r laf sif ce) {k : Nat} (hk : k < 4) (e : ¬ s_la k = -1) : laf k = s_la k ∧ ¬ s_la k = -1 ∧ ¬ s_la k = -4 ∧ sif k = nI (s_z k) ∧ s_z k ≤ 40 ∧ ∀ i, i < 40 → ce (40 * k + i) = s_r k i := (h k hk).resolve_left (fun z => e z.2)
theorem rd_in {f : Int32} {i c z : Nat} (hi : i ≤ 20) (hc : c ≤ 2) (hz : z ≤ 40) (h0 : ¬ lg_cmp (f.toInt64 + (nI (2 * i)).toInt64 + (nI c).toInt64) 0 < 0) (h1 : lg_cmp (f.toInt64 + (nI (2 * i)).toInt64 + (nI c).toInt64) (nI z).toInt64 < 0) : (c = 0 → hslt (pRd f i) z = true) ∧ (c = 1 → hslt (pRd f i) z = true → hslt (pRd f i + 1) z = true) := by
  have a := (hs_lcl hi hc hz).1.mp h0
  have b := (hs_lcl hi hc hz).2.mp h1
  refine ⟨fun e => (hs_lsum hi hz).mpr (by subst e; omega), fun e g => (hs_lsum1 hi hz g).mpr (by subst e; omega)⟩
theorem rd_out1 {f : Int32} {i c z : Nat} (hi : i ≤ 20) (hc : c ≤ 2) (hz : z ≤ 40) (h0 : lg_cmp (f.toInt64 + (nI (2 * i)).toInt64 + (nI c).toInt64) 0 < 0) : (c = 0 → ¬ hslt (pRd f i) z = true) ∧ (c = 1 → hslt (pRd f i) z = true → ¬ hslt (pRd f i + 1) z = true) := by
  have a : ¬ 0 ≤ f.toInt + 2 * (i : Int) + c := fun h => absurd h0 ((hs_lcl (z := z) hi hc hz).1.mpr h)
  refine ⟨fun e g => ?_, fun e g => ?_⟩
  · have := (hs_lsum hi hz).mp g
    subst e
    omega
  · have := (hs_lsum hi hz).mp g
    subst e
    omega
theorem rd_out2 {f : Int32} {i c z : Nat} (hi : i ≤ 20) (hc : c ≤ 2) (hz : z ≤ 40) (h1 : ¬ lg_cmp (f.toInt64 + (nI (2 * i)).toInt64 + (nI c).toInt64) (nI z).toInt64 < 0) : (c = 0 → ¬ hslt (pRd f i) z = true) ∧ (c = 1 → hslt (pRd f i) z = true → ¬ hslt (pRd f i + 1) z = true) := by
  have b : ¬ f.toInt + 2 * (i : Int) + c < z := fun h => h1 ((hs_lcl hi hc hz).2.mpr h)
  refine ⟨fun e g => ?_, fun e g g2 => ?_⟩
  · have := (hs_lsum hi hz).mp g
    subst e
    omega
  · have := (hs_lsum1 hi hz g).mp g2
    subst e
    omega
/-- the reference's inner loop over the two places -/
def rdI (la : Int32) (z : Nat) (lane p : Int32) (cc : Nat) (re : Int32) : Prop := (cc = 0 → re = 0) ∧ (cc = 1 → re = g0R la z lane p) ∧ (cc = 2 → re = fTw la z lane p)
theorem rdI_end {la : Int32} {z : Nat} {lane p : Int32} {cc : Nat} {re : Int32} (h : rdI la z lane p cc re) (hc : cc ≤ 2) (hx : 2 ≤ cc ∨ ¬ re = 0) : re = fTw la z lane p := by
  rcases (show cc = 0 ∨ cc = 1 ∨ cc = 2 by omega) with e | e | e
  · exact absurd (h.1 e) (hx.resolve_left (by omega))
  · have e2 := h.2.1 e
    rw [e2, g0R_n (by rw [← e2]; exact hx.resolve_left (by omega))]
  · exact h.2.2 e
theorem rdI_step {la : Int32} {z : Nat} {lane p : Int32} {cc : Nat} {re re2 : Int32} (h : rdI la z lane p cc re) (hc : cc < 2) (h0 : re = 0) (ha : cc = 0 → re2 = g0R la z lane p) (hb : cc = 1 → g0R la z lane p = 0 → re2 = fAt la z (p + 1)) : rdI la z lane p (cc + 1) re2 :=
  ⟨fun e => absurd e (by omega), fun e => ha (by omega), fun e => by
    have e1 : cc = 1 := by omega
    have e2 := (h.2.1 e1).symm.trans h0
    rw [hb e1 e2, fTw_g0 e2]⟩
