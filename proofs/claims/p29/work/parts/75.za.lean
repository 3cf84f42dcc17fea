-- HOW MANY ORDERS: the numbers below n ^ m whose digits are a good row, against the count by subsets
def hsum (g : Nat → Nat) : Nat → Nat
  | 0 => 0
  | n + 1 => hsum g n + g n
theorem hsum_congr {g k : Nat → Nat} : ∀ n : Nat, (∀ i, i < n → g i = k i) → hsum g n = hsum k n := by
  intro n
  induction n with
  | zero => intro _; rfl
  | succ n ih =>
    intro h
    show hsum g n + g n = hsum k n + k n
    rw [ih (fun i hi => h i (by omega)), h n (by omega)]
theorem hsum_zero : ∀ n : Nat, hsum (fun _ => 0) n = 0 := by
  intro n
  induction n with
  | zero => rfl
  | succ n ih => exact ih
theorem hsum_add {g k : Nat → Nat} : ∀ n : Nat, hsum (fun i => g i + k i) n = hsum g n + hsum k n := by
  intro n
  induction n with
  | zero => rfl
  | succ n ih =>
    show hsum (fun i => g i + k i) n + (g n + k n) = hsum g n + g n + (hsum k n + k n)
    rw [ih]
    omega
theorem hsum_swap {g : Nat → Nat → Nat} {m : Nat} : ∀ n : Nat, hsum (fun i => hsum (fun j => g i j) m) n = hsum (fun j => hsum (fun i => g i j) n) m := by
  intro n
  induction n with
  | zero => exact (hsum_zero m).symm
  | succ n ih =>
    show hsum (fun i => hsum (fun j => g i j) m) n + hsum (fun j => g n j) m = hsum (fun j => hsum (fun i => g i j) n + g n j) m
    rw [ih, ← hsum_add]
theorem hsum_append {g : Nat → Nat} {m : Nat} : ∀ n : Nat, hsum g (m + n) = hsum g m + hsum (fun h => g (m + h)) n := by
  intro n
  induction n with
  | zero => rfl
  | succ n ih =>
    show hsum g (m + n) + g (m + n) = hsum g m + (hsum (fun h => g (m + h)) n + g (m + n))
    rw [ih]
    omega
theorem hsum_mul {g : Nat → Nat} {n : Nat} : ∀ a : Nat, hsum g (n * a) = hsum (fun y => hsum (fun h => g (n * y + h)) n) a := by
  intro a
  induction a with
  | zero => rfl
  | succ a ih =>
    rw [Nat.mul_succ, hsum_append, ih]
    rfl
def hmc (ah : Nat → Nat) (h S : Nat) : Bool := decide (ah h &&& S = ah h)
def Wm (n : Nat) (ah : Nat → Nat) : Nat → Nat → Nat
  | 0, S => if S = 0 then 1 else 0
  | m + 1, S => hsum (fun h => if S.testBit h = true ∧ hmc ah h (S - 2 ^ h) = true then Wm n ah m (S - 2 ^ h) else 0) n
def hset (n : Nat) : Nat → Nat → Nat
  | 0, _ => 0
  | m + 1, x => hset n m (x / n) ||| 2 ^ (x % n)
def hgood (n : Nat) (ah : Nat → Nat) : Nat → Nat → Prop
  | 0, _ => True
  | m + 1, x => hgood n ah m (x / n) ∧ (hset n m (x / n)).testBit (x % n) = false ∧ hmc ah (x % n) (hset n m (x / n)) = true
theorem hset_lt {n : Nat} (hn1 : 1 ≤ n) (hn : n ≤ 5) : ∀ m x : Nat, hset n m x < 32 := by
  intro m
  induction m with
  | zero => intro x; exact (by decide : 0 < 32)
  | succ m ih =>
    intro x
    have h1 : x % n < n := Nat.mod_lt x hn1
    have h2 : 2 ^ (x % n) < 2 ^ 5 := Nat.pow_lt_pow_right (by decide) (by omega)
    exact Nat.or_lt_two_pow (n := 5) (ih (x / n)) h2
theorem hbit : ∀ T, T < 32 → ∀ S, S < 32 → ∀ h, h < 5 → ((T.testBit h = false ∧ (T ||| 2 ^ h) = S) ↔ (S.testBit h = true ∧ T = S - 2 ^ h)) := by decide +kernel
noncomputable def hcnt (n : Nat) (ah : Nat → Nat) (m S : Nat) : Nat := hsum (fun x => @ite Nat (hgood n ah m x ∧ hset n m x = S) (Classical.propDecidable _) 1 0) (n ^ m)
theorem hcnt_eq {n : Nat} {ah : Nat → Nat} (hn1 : 1 ≤ n) (hn : n ≤ 5) : ∀ m S : Nat, S < 32 → hcnt n ah m S = Wm n ah m S := by
  intro m
  induction m with
  | zero =>
    intro S _
    show 0 + @ite Nat (True ∧ 0 = S) (Classical.propDecidable _) 1 0 = if S = 0 then 1 else 0
    by_cases h : S = 0
    · subst h
      rw [if_pos ⟨trivial, rfl⟩, if_pos rfl]
    · rw [if_neg (fun z => h z.2.symm), if_neg h]
  | succ m ih =>
    intro S hS
    unfold hcnt
    rw [Nat.pow_succ, Nat.mul_comm, hsum_mul, hsum_swap]
    show _ = hsum (fun h => if S.testBit h = true ∧ hmc ah h (S - 2 ^ h) = true then Wm n ah m (S - 2 ^ h) else 0) n
    refine hsum_congr n (fun h hh => ?_)
    have key : ∀ y, @ite Nat (hgood n ah (m + 1) (n * y + h) ∧ hset n (m + 1) (n * y + h) = S) (Classical.propDecidable _) 1 0 = if S.testBit h = true ∧ hmc ah h (S - 2 ^ h) = true then @ite Nat (hgood n ah m y ∧ hset n m y = S - 2 ^ h) (Classical.propDecidable _) 1 0 else 0 := by
      intro y
      have e1 : (n * y + h) / n = y := by rw [Nat.mul_add_div hn1, Nat.div_eq_of_lt hh]; rfl
      have e2 : (n * y + h) % n = h := by rw [Nat.mul_add_mod, Nat.mod_eq_of_lt hh]
      have hb := hbit (hset n m y) (hset_lt hn1 hn m y) S hS h (by omega)
      have e3 : (hgood n ah (m + 1) (n * y + h) ∧ hset n (m + 1) (n * y + h) = S) ↔ ((hgood n ah m y ∧ hset n m y = S - 2 ^ h) ∧ (S.testBit h = true ∧ hmc ah h (S - 2 ^ h) = true)) := by
        show ((hgood n ah m ((n * y + h) / n) ∧ (hset n m ((n * y + h) / n)).testBit ((n * y + h) % n) = false ∧ hmc ah ((n * y + h) % n) (hset n m ((n * y + h) / n)) = true) ∧ (hset n m ((n * y + h) / n) ||| 2 ^ ((n * y + h) % n)) = S) ↔ _
        rw [e1, e2]
        constructor
        · rintro ⟨⟨g1, g2, g3⟩, g4⟩
          have g5 := hb.mp ⟨g2, g4⟩
          exact ⟨⟨g1, g5.2⟩, g5.1, by rw [← g5.2]; exact g3⟩
        · rintro ⟨⟨g1, g2⟩, g3, g4⟩
          have g5 := hb.mpr ⟨g3, g2⟩
          exact ⟨⟨g1, g5.1, by rw [g2]; exact g4⟩, g5.2⟩
      by_cases c : S.testBit h = true ∧ hmc ah h (S - 2 ^ h) = true
      · rw [if_pos c]
        by_cases d : hgood n ah m y ∧ hset n m y = S - 2 ^ h
        · rw [if_pos d, if_pos (e3.mpr ⟨d, c⟩)]
        · rw [if_neg d, if_neg (fun z => d (e3.mp z).1)]
      · rw [if_neg c, if_neg (fun z => c (e3.mp z).2)]
    rw [hsum_congr (n ^ m) (fun y _ => key y)]
    by_cases c : S.testBit h = true ∧ hmc ah h (S - 2 ^ h) = true
    · rw [if_pos c, ← ih (S - 2 ^ h) (Nat.lt_of_le_of_lt (Nat.sub_le _ _) hS)]
      exact hsum_congr (n ^ m) (fun y _ => if_pos c)
    · rw [if_neg c]
      exact (hsum_congr (k := fun _ => 0) (n ^ m) (fun y _ => if_neg c)).trans (hsum_zero (n ^ m))
