theorem hs_updin {f : Nat → Int32} {n b M : Nat} (hM : M < 2 ^ 31) (hn : n < 2 ^ 31) (h : ∀ i, i < n → vp_in (f i) M) (hb : b < M) : ∀ i, i < n + 1 → vp_in (upd f (nI n).toNatClampNeg (nI b) i) M := by
  intro i hi
  rw [nI_clamp hn]
  by_cases e : i = n
  · subst e
    simp only [upd, if_true]
    exact vp_in_nI hb hM
  · simp only [upd, if_neg e]
    exact h i (by omega)
theorem hslt_lt {a n : Nat} (ha : a < 2 ^ 31) (h : hslt (nI a) n = true) : a < n := by
  simp only [hslt, Bool.and_eq_true, decide_eq_true_eq] at h
  rw [nI_toInt ha] at h
  omega
