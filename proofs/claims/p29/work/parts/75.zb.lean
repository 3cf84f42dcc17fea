/-- who must come ahead of h, as a set: the lights of the pairs whose heavy is h -/
def hAh (lt hv : Nat → Nat) : Nat → Nat → Nat
  | 0, _ => 0
  | n + 1, h => if hv n = h then hAh lt hv n h ||| 2 ^ lt n else hAh lt hv n h
theorem hAh_lt {lt hv : Nat → Nat} : ∀ n h : Nat, (∀ i, i < n → lt i < 5) → hAh lt hv n h < 32 := by
  intro n
  induction n with
  | zero => intro h _; exact (by decide : 0 < 32)
  | succ n ih =>
    intro h hl
    have h1 := ih h (fun i hi => hl i (by omega))
    show (if hv n = h then hAh lt hv n h ||| 2 ^ lt n else hAh lt hv n h) < 32
    by_cases e : hv n = h
    · rw [if_pos e]
      have h2 := hl n (by omega)
      exact Nat.or_lt_two_pow (n := 5) h1 (Nat.pow_lt_pow_right (by decide) h2)
    · rw [if_neg e]; exact h1
theorem hs_or5 : ∀ x, x < 32 → ∀ l, l < 5 → nI x ||| 1 <<< (nI l &&& 31) = nI (x ||| 2 ^ l) := by decide +kernel
theorem hs_rm : ∀ a, a < 32 → ∀ h, h < 5 → nI a &&& (1 <<< (nI h &&& 31) ^^^ (-1)) = nI (if a.testBit h = true then a - 2 ^ h else a) := by decide +kernel
theorem hs_mc5 : ∀ a, a < 32 → ∀ S, S < 32 → (nI a &&& (nI S ^^^ (-1)) = 0 ↔ a &&& S = a) := by decide +kernel
/-- how many are in S -/
def hpop (S : Nat) : Nat := hsum (fun h => if S.testBit h = true then 1 else 0) 5
theorem hpop_rm : ∀ S, S < 32 → ∀ h, h < 5 → S.testBit h = true → (hpop S = hpop (S - 2 ^ h) + 1 ∧ S - 2 ^ h < S) := by decide +kernel
theorem hpop_pos : ∀ S, S < 32 → 1 ≤ S → 1 ≤ hpop S := by decide +kernel
theorem hpop_full : ∀ n, n < 6 → hpop (2 ^ n - 1) = n := by decide +kernel
theorem Wm_0 {n : Nat} {ah : Nat → Nat} : Wm n ah (hpop 0) 0 = 1 := rfl
theorem Wm_pos {n : Nat} {ah : Nat → Nat} {S : Nat} (hS : S < 32) (h1 : 1 ≤ S) : Wm n ah (hpop S) S = hsum (fun h => if S.testBit h = true ∧ hmc ah h (S - 2 ^ h) = true then Wm n ah (hpop S - 1) (S - 2 ^ h) else 0) n := by
  obtain ⟨m, hm⟩ : ∃ m, hpop S = m + 1 := ⟨hpop S - 1, by have := hpop_pos S hS h1; omega⟩
  rw [hm]
  rfl
/-- the pairs of a Thing, as numbers -/
def hPr (F : Nat → Nat → Int32) (n : Nat) (lt hv : Nat → Nat) : Prop := ∀ i, i < n → (lt i < 5 ∧ hv i < 5 ∧ F 2 i = nI (lt i) ∧ F 3 i = nI (hv i))
