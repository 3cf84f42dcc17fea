-- where to stop: the fine after n appeals, the best so far, the least so far
def A_hi (f : Int32) : Nat → Int32
  | 0 => f
  | n + 1 => (A_hi f n + 1) / 2
def A_st (a f : Int32) : Nat → Int32 × Int32 × Int32
  | 0 => (f, 0, f)
  | n + 1 => if ((A_st a f n).1 + 1) / 2 + nI (n + 1) * a < (A_st a f n).2.2 then (((A_st a f n).1 + 1) / 2, nI (n + 1), ((A_st a f n).1 + 1) / 2 + nI (n + 1) * a) else (((A_st a f n).1 + 1) / 2, (A_st a f n).2.1, (A_st a f n).2.2)
def A_sm (a f : Int32) : Nat → Int32 × Int32 × Int32
  | 0 => (f, 0, f)
  | n + 1 => if (A_sm a f n).1 - (A_sm a f n).1 / 2 + nI (n + 1) * a < (A_sm a f n).2.2 then ((A_sm a f n).1 - (A_sm a f n).1 / 2, nI (n + 1), (A_sm a f n).1 - (A_sm a f n).1 / 2 + nI (n + 1) * a) else ((A_sm a f n).1 - (A_sm a f n).1 / 2, (A_sm a f n).2.1, (A_sm a f n).2.2)
theorem A_st_s (a f : Int32) {k : Nat} (h : 1 ≤ k) : A_st a f (k + 1 - 1) = if ((A_st a f (k - 1)).1 + 1) / 2 + nI k * a < (A_st a f (k - 1)).2.2 then (((A_st a f (k - 1)).1 + 1) / 2, nI k, ((A_st a f (k - 1)).1 + 1) / 2 + nI k * a) else (((A_st a f (k - 1)).1 + 1) / 2, (A_st a f (k - 1)).2.1, (A_st a f (k - 1)).2.2) := by
  obtain ⟨n, rfl⟩ : ∃ n, k = n + 1 := ⟨k - 1, by omega⟩
  rw [show n + 1 + 1 - 1 = n + 1 by omega, show n + 1 - 1 = n by omega]
  rfl
theorem A_sm_s (a f : Int32) {k : Nat} (h : 1 ≤ k) : A_sm a f (k + 1 - 1) = if (A_sm a f (k - 1)).1 - (A_sm a f (k - 1)).1 / 2 + nI k * a < (A_sm a f (k - 1)).2.2 then ((A_sm a f (k - 1)).1 - (A_sm a f (k - 1)).1 / 2, nI k, (A_sm a f (k - 1)).1 - (A_sm a f (k - 1)).1 / 2 + nI k * a) else ((A_sm a f (k - 1)).1 - (A_sm a f (k - 1)).1 / 2, (A_sm a f (k - 1)).2.1, (A_sm a f (k - 1)).2.2) := by
  obtain ⟨n, rfl⟩ : ∃ n, k = n + 1 := ⟨k - 1, by omega⟩
  rw [show n + 1 + 1 - 1 = n + 1 by omega, show n + 1 - 1 = n by omega]
  rfl
theorem A_st_1 {a f : Int32} : ∀ n : Nat, (A_st a f n).1 = A_hi f n := by
  intro n
  induction n with
  | zero => rfl
  | succ n ih =>
    rw [A_st, A_hi, ← ih]
    split <;> rfl
theorem A_hi7 : ∀ x, x < 100 → A_hi (nI x) 7 ≤ 1 := by decide +kernel
theorem A_hih : ∀ x, x < 100 → nI x - nI x / 2 = (nI x + 1) / 2 ∧ ∃ y, y < 100 ∧ (nI x + 1) / 2 = nI y := by decide +kernel
theorem A_hib {f : Int32} (h : vp_in f 100) : ∀ n : Nat, ∃ y, y < 100 ∧ A_hi f n = nI y := by
  intro n
  induction n with
  | zero => exact vp_in_of h (by decide)
  | succ n ih =>
    obtain ⟨x, hx, ex⟩ := ih
    rw [A_hi, ex]
    exact (A_hih x hx).2
theorem A_st7 {a f : Int32} (h : vp_in f 100) : (A_st a f 7).1 ≤ 1 := by
  obtain ⟨x, hx, ex⟩ := vp_in_of h (by decide)
  rw [A_st_1, ex]
  exact A_hi7 x hx
theorem A_sm_st {a f : Int32} (h : vp_in f 100) : ∀ n : Nat, A_sm a f n = A_st a f n := by
  intro n
  induction n with
  | zero => rfl
  | succ n ih =>
    obtain ⟨x, hx, ex⟩ := A_hib h n
    have e : (A_st a f n).1 - (A_st a f n).1 / 2 = ((A_st a f n).1 + 1) / 2 := by
      rw [A_st_1, ex]; exact (A_hih x hx).1
    rw [A_sm, A_st, ih, e]
theorem A_sm7 {a f : Int32} (h : vp_in f 100) : (A_sm a f 7).1 ≤ 1 := by
  rw [A_sm_st h]; exact A_st7 h
def A_soC (f a what r : Int32) : Prop := ((hsin a 0 99 && hsin what 0 1) = false ∧ r = -1) ∨ ((hsin a 0 99 && hsin what 0 1) = true ∧ ∃ n : Nat, (A_st a f n).1 ≤ 1 ∧ (∀ j, j < n → ¬ (A_st a f j).1 ≤ 1) ∧ r = if what = 0 then (A_st a f n).2.1 else (A_st a f n).2.2)
def A_soM (f a what r : Int32) : Prop := ((hsin a 0 99 && hsin what 0 1) = false ∧ r = -1) ∨ ((hsin a 0 99 && hsin what 0 1) = true ∧ ∃ n : Nat, (A_sm a f n).1 ≤ 1 ∧ (∀ j, j < n → ¬ (A_sm a f j).1 ≤ 1) ∧ r = if what = 0 then (A_sm a f n).2.1 else (A_sm a f n).2.2)
theorem R_stop {f g a what rc rm : Int32} (h : vp_in f 100) (e : g = f) (hc : A_soC f a what rc) (hm : A_soM g a what rm) : rc = rm := by
  subst e
  rcases hc with ⟨x1, x2⟩ | ⟨x1, n, x2, x3, x4⟩ <;> rcases hm with ⟨y1, y2⟩ | ⟨y1, k, y2, y3, y4⟩
  · rw [x2, y2]
  · exact hs_tf y1 x1
  · exact hs_tf x1 y1
  · rw [A_sm_st h] at y2 y4
    have e : n = k := by
      rcases Nat.lt_trichotomy n k with z | z | z
      · exact absurd (by rw [A_sm_st h]; exact x2) (y3 n z)
      · exact z
      · exact absurd y2 (x3 k z)
    rw [x4, y4, e]
