-- ORDERS: which may come next; an ORDER begun can be ended; the first ORDER is the greedy one
def avB (ah : Nat → Nat) (S d : Nat) : Bool := !S.testBit d && hmc ah d S
theorem avB_iff {ah : Nat → Nat} {S d : Nat} : avB ah S d = true ↔ (S.testBit d = false ∧ hmc ah d S = true) := by
  unfold avB
  rw [Bool.and_eq_true, Bool.not_eq_true']
theorem hgood_s {n : Nat} {ah : Nat → Nat} {m y d : Nat} (hd : d < n) : hgood n ah (m + 1) (n * y + d) ↔ (hgood n ah m y ∧ avB ah (hset n m y) d = true) := by
  have e1 : (n * y + d) / n = y := by rw [Nat.mul_add_div (by omega), Nat.div_eq_of_lt hd]; rfl
  have e2 : (n * y + d) % n = d := by rw [Nat.mul_add_mod, Nat.mod_eq_of_lt hd]
  show (hgood n ah m ((n * y + d) / n) ∧ (hset n m ((n * y + d) / n)).testBit ((n * y + d) % n) = false ∧ hmc ah ((n * y + d) % n) (hset n m ((n * y + d) / n)) = true) ↔ _
  rw [e1, e2, avB_iff]
theorem hset_s {n m y d : Nat} (hd : d < n) : hset n (m + 1) (n * y + d) = hset n m y ||| 2 ^ d := by
  have e1 : (n * y + d) / n = y := by rw [Nat.mul_add_div (by omega), Nat.div_eq_of_lt hd]; rfl
  have e2 : (n * y + d) % n = d := by rw [Nat.mul_add_mod, Nat.mod_eq_of_lt hd]
  show hset n m ((n * y + d) / n) ||| 2 ^ ((n * y + d) % n) = _
  rw [e1, e2]
theorem hgood_p {n : Nat} {ah : Nat → Nat} : ∀ k j x : Nat, hgood n ah (j + k) x → hgood n ah j (x / n ^ k) := by
  intro k
  induction k with
  | zero => intro j x h; rw [Nat.pow_zero, Nat.div_one]; exact h
  | succ k ih =>
    intro j x h
    have h1 := ih j (x / n) h.1
    rw [Nat.div_div_eq_div_mul, Nat.mul_comm] at h1
    exact h1
theorem pfx {n x j : Nat} (hj : j < n) : x / n ^ (n - (j + 1)) = n * (x / n ^ (n - j)) + x / n ^ (n - 1 - j) % n := by
  rw [show n - j = (n - (j + 1)) + 1 by omega, show n - 1 - j = n - (j + 1) by omega, Nat.pow_succ, ← Nat.div_div_eq_div_mul]
  exact (Nat.div_add_mod _ n).symm
theorem hset_lt2 {n : Nat} (hn : 1 ≤ n) : ∀ m x : Nat, hset n m x < 2 ^ n := by
  intro m
  induction m with
  | zero => intro x; exact Nat.two_pow_pos n
  | succ m ih =>
    intro x
    exact Nat.or_lt_two_pow (ih (x / n)) (Nat.pow_lt_pow_right (by decide) (Nat.mod_lt x hn))
theorem hpop_or : ∀ S, S < 32 → ∀ d, d < 5 → (S.testBit d = false → hpop (S ||| 2 ^ d) = hpop S + 1) := by decide +kernel
theorem hpop_or1 : ∀ S, S < 32 → ∀ d, d < 5 → hpop (S ||| 2 ^ d) ≤ hpop S + 1 := by decide +kernel
theorem hpop_all : ∀ n, n < 6 → ∀ S, S < 2 ^ n → (hpop S = n → S = 2 ^ n - 1) := by decide +kernel
theorem hpop_sub : ∀ n, n < 6 → ∀ S, S < 32 → ((2 ^ n - 1) &&& S = 2 ^ n - 1 → n ≤ hpop S) := by decide +kernel
theorem hpop_oneB : ∀ n, n < 6 → ∀ S, S < 2 ^ n → allU n (fun d => allU n (fun h => !decide (hpop S + 1 = n) || S.testBit d || S.testBit h || decide (d = h))) = true := by decide +kernel
theorem hpop_one (n : Nat) (hn : n < 6) (S : Nat) (hS : S < 2 ^ n) (d : Nat) (hd : d < n) (h : Nat) (hh : h < n) (e : hpop S + 1 = n) (a : S.testBit d = false) (b : S.testBit h = false) : d = h := by
  have z := allU_iff.mp (allU_iff.mp (hpop_oneB n hn S hS) d hd) h hh
  rw [a, b, decide_eq_true e, Bool.not_true, Bool.false_or, Bool.false_or, Bool.false_or] at z
  exact of_decide_eq_true z
theorem good_pop {n : Nat} {ah : Nat → Nat} (hn : 1 ≤ n) (h5 : n ≤ 5) : ∀ m x : Nat, hgood n ah m x → hpop (hset n m x) = m := by
  intro m
  induction m with
  | zero => intro x _; exact (by decide : hpop 0 = 0)
  | succ m ih =>
    intro x h
    have d := Nat.mod_lt x hn
    show hpop (hset n m (x / n) ||| 2 ^ (x % n)) = m + 1
    rw [hpop_or _ (hset_lt hn h5 m (x / n)) _ (by omega) h.2.1, ih (x / n) h.1]
theorem good_full {n : Nat} {ah : Nat → Nat} (hn : 1 ≤ n) (h5 : n ≤ 5) {x : Nat} (h : hgood n ah n x) : hset n n x = 2 ^ n - 1 :=
  hpop_all n (by omega) _ (hset_lt2 hn n x) (good_pop hn h5 n x h)
theorem ext_av {n : Nat} {ah : Nat → Nat} {X S z : Nat} (hn : 1 ≤ n) (h5 : n ≤ 5) (hX : ∀ d, d < n → ah d &&& X = 0) (hX5 : X < 32) (hS5 : S < 32) (hz : hgood n ah n z) : ∀ j, j ≤ n → ((hset n j (z / n ^ (n - j)) &&& (S ||| X) = hset n j (z / n ^ (n - j))) ∨ ∃ d, d < n ∧ X.testBit d = false ∧ avB ah S d = true) := by
  intro j
  induction j with
  | zero => intro _; exact Or.inl (Nat.zero_and _)
  | succ j ih =>
    intro hj
    rcases ih (by omega) with h | h
    · have d := Nat.mod_lt (z / n ^ (n - 1 - j)) hn
      have g := hgood_p (n - (j + 1)) (j + 1) z (by rw [show j + 1 + (n - (j + 1)) = n by omega]; exact hz)
      rw [pfx (by omega)] at g ⊢
      have a := avB_iff.mp ((hgood_s d).mp g).2
      rw [hset_s d]
      have T5 := hset_lt hn h5 j (z / n ^ (n - j))
      by_cases q : (S ||| X).testBit (z / n ^ (n - 1 - j) % n) = true
      · exact Or.inl ((hs_orand _ T5 _ (Nat.or_lt_two_pow (n := 5) hS5 hX5) _ (by omega)).mpr ⟨h, q⟩)
      · refine Or.inr ⟨_, d, ?_, avB_iff.mpr ⟨?_, ?_⟩⟩
        · rw [Nat.testBit_or] at q
          cases c : X.testBit (z / n ^ (n - 1 - j) % n) with
          | false => rfl
          | true => rw [c, Bool.or_true] at q; exact absurd rfl q
        · rw [Nat.testBit_or] at q
          cases c : S.testBit (z / n ^ (n - 1 - j) % n) with
          | false => rfl
          | true => rw [c, Bool.true_or] at q; exact absurd rfl q
        · have b := of_decide_eq_true a.2
          have b2 : ah (z / n ^ (n - 1 - j) % n) &&& (S ||| X) = ah (z / n ^ (n - 1 - j) % n) := by
            rw [← b, Nat.and_assoc, h]
          rw [Nat.and_or_distrib_left, hX _ d, Nat.or_zero] at b2
          exact decide_eq_true b2
    · exact Or.inr h
theorem ext_all {n : Nat} {ah : Nat → Nat} {X z t : Nat} (hn : 1 ≤ n) (h5 : n ≤ 5) (hX : ∀ d, d < n → ah d &&& X = 0) (hX5 : X < 32) (hz : hgood n ah n z) (hT : ∀ S, S < 32 → hpop S < t → ¬ ((2 ^ n - 1) &&& (S ||| X) = 2 ^ n - 1)) : ∀ k m y : Nat, m + k = t → y < n ^ m → hgood n ah m y → (∀ e, X.testBit e = true → (hset n m y).testBit e = false) → ∃ x, x < n ^ t ∧ hgood n ah t x ∧ x / n ^ k = y ∧ ∀ e, X.testBit e = true → (hset n t x).testBit e = false := by
  intro k
  induction k with
  | zero =>
    intro m y e hy hg hx
    rw [Nat.add_zero] at e
    subst e
    exact ⟨y, hy, hg, by rw [Nat.pow_zero, Nat.div_one], hx⟩
  | succ k ih =>
    intro m y e hy hg hx
    have S5 := hset_lt hn h5 m y
    have p := good_pop hn h5 m y hg
    rcases ext_av hn h5 hX hX5 S5 hz n (Nat.le_refl _) with q | ⟨d, hd, hXd, ha⟩
    · rw [Nat.sub_self, Nat.pow_zero, Nat.div_one, good_full hn h5 hz] at q
      exact absurd q (hT _ S5 (by omega))
    · have hy2 : n * y + d < n ^ (m + 1) := by
        rw [Nat.pow_succ, Nat.mul_comm (n ^ m) n]
        have h1 : n * (y + 1) ≤ n * n ^ m := Nat.mul_le_mul_left n hy
        rw [Nat.mul_add, Nat.mul_one] at h1
        omega
      obtain ⟨x, x1, x2, x3, x4⟩ := ih (m + 1) (n * y + d) (by omega) hy2 ((hgood_s hd).mpr ⟨hg, ha⟩) (fun e he => by
        rw [hset_s hd, Nat.testBit_or, hx e he, Bool.false_or, Nat.testBit_two_pow]
        refine decide_eq_false (fun z => ?_)
        rw [z, he] at hXd
        exact absurd hXd (by decide))
      refine ⟨x, x1, x2, ?_, x4⟩
      rw [Nat.pow_succ, ← Nat.div_div_eq_div_mul, x3, Nat.mul_add_div (by omega), Nat.div_eq_of_lt hd]
      rfl
theorem ext_0 {n : Nat} {ah : Nat → Nat} {z : Nat} (hn : 1 ≤ n) (h5 : n ≤ 5) (hz : hgood n ah n z) {m y : Nat} (hm : m ≤ n) (hy : y < n ^ m) (hg : hgood n ah m y) : ∃ x, x < n ^ n ∧ hgood n ah n x ∧ x / n ^ (n - m) = y := by
  obtain ⟨x, x1, x2, x3, -⟩ := ext_all (X := 0) (t := n) hn h5 (fun d _ => Nat.and_zero _) (by decide) hz (fun S hS hp q => by
    rw [Nat.or_zero] at q
    have := hpop_sub n (by omega) S hS q
    omega) (n - m) m y (by omega) hy hg (fun e he => absurd he (by rw [Nat.zero_testBit]; decide))
  exact ⟨x, x1, x2, x3⟩
/-- what is met is closed -/
theorem good_dc {n : Nat} {ah : Nat → Nat} (hn : 1 ≤ n) : ∀ m y : Nat, hgood n ah m y → ∀ j, (hset n m y).testBit j = true → ah j &&& hset n m y = ah j := by
  intro m
  induction m with
  | zero => intro y _ j hj; exact absurd hj (by show ¬ (0 : Nat).testBit j = true; rw [Nat.zero_testBit]; decide)
  | succ m ih =>
    intro y h j hj
    have key : ∀ T, ah j &&& T = ah j → ah j &&& (T ||| 2 ^ (y % n)) = ah j := fun T e => by
      rw [Nat.and_or_distrib_left, e]
      refine Nat.eq_of_testBit_eq (fun i => ?_)
      rw [Nat.testBit_or, Nat.testBit_and]
      cases (ah j).testBit i <;> simp
    show ah j &&& (hset n m (y / n) ||| 2 ^ (y % n)) = ah j
    apply key
    have hj2 : (hset n m (y / n) ||| 2 ^ (y % n)).testBit j = true := hj
    rw [Nat.testBit_or, Nat.testBit_two_pow, Bool.or_eq_true, decide_eq_true_eq] at hj2
    rcases hj2 with a | a
    · exact ih (y / n) h.1 j a
    · rw [← a]
      exact of_decide_eq_true h.2.2
theorem bit_sub {a T i : Nat} (h : a &&& T = a) (b : a.testBit i = true) : T.testBit i = true := by
  rw [← h, Nat.testBit_and, Bool.and_eq_true] at b
  exact b.2
theorem gd_g {n : Nat} {lt hv : Nat → Nat} {np x : Nat} (h2 : 2 ≤ n) (h5 : n ≤ 5) (hp : ∀ k, k < np → (lt k < n ∧ hv k < n)) : gdB n lt hv np x = true ↔ hgood n (hAh lt hv np) n x :=
  (gd_iff h2 h5 hp).trans ⟨fun h => h.1, fun h => ⟨h, good_full (by omega) h5 h⟩⟩
theorem borB_t {g : Nat → Bool} {d : Nat → Nat} {h : Nat} : ∀ m : Nat, (borB g d m).testBit h = true ↔ ∃ x, x < m ∧ g x = true ∧ d x = h := by
  intro m
  induction m with
  | zero => exact ⟨fun z => absurd z (by show ¬ (0 : Nat).testBit h = true; rw [Nat.zero_testBit]; decide), fun ⟨x, hx, _⟩ => absurd hx (Nat.not_lt_zero x)⟩
  | succ m ih =>
    by_cases e : g m = true
    · rw [borB, if_pos e, Nat.testBit_or, Bool.or_eq_true, ih, Nat.testBit_two_pow, decide_eq_true_eq]
      constructor
      · rintro (⟨x, h1, h2, h3⟩ | h3)
        · exact ⟨x, by omega, h2, h3⟩
        · exact ⟨m, by omega, e, h3⟩
      · rintro ⟨x, h1, h2, h3⟩
        by_cases c : x = m
        · subst c; exact Or.inr h3
        · exact Or.inl ⟨x, by omega, h2, h3⟩
    · rw [borB, if_neg e, ih]
      constructor
      · rintro ⟨x, h1, h2, h3⟩
        exact ⟨x, by omega, h2, h3⟩
      · rintro ⟨x, h1, h2, h3⟩
        by_cases c : x = m
        · subst c; exact absurd h2 e
        · exact ⟨x, by omega, h2, h3⟩
theorem cntB_ex {g : Nat → Bool} : ∀ m : Nat, ¬ cntB g m = 0 → (frsB g m < m ∧ g (frsB g m) = true ∧ ∀ x, x < frsB g m → g x = false) := by
  intro m
  induction m with
  | zero => intro h; exact absurd rfl h
  | succ m ih =>
    intro h
    rw [cntB] at h
    by_cases e : g m = true
    · by_cases c : cntB g m = 0
      · rw [frsB, if_pos e, if_pos c]
        have z : ∀ k, cntB g k = 0 → ∀ x, x < k → g x = false := by
          intro k
          induction k with
          | zero => intro _ x hx; exact absurd hx (Nat.not_lt_zero x)
          | succ k ik =>
            intro hk x hx
            rw [cntB] at hk
            by_cases gk : g k = true
            · rw [if_pos gk] at hk; omega
            · by_cases xk : x = k
              · subst xk; cases q : g x with
                | false => rfl
                | true => exact absurd q gk
              · exact ik (by omega) x (by omega)
        exact ⟨by omega, e, z m c⟩
      · rw [frsB, if_pos e, if_neg c]
        obtain ⟨a, b, d⟩ := ih c
        exact ⟨by omega, b, d⟩
    · rw [if_neg e] at h
      rw [frsB, if_neg e]
      obtain ⟨a, b, d⟩ := ih (by omega)
      exact ⟨by omega, b, d⟩
/-- the first below the bound, or the bound -/
def lbF (P : Nat → Bool) : Nat → Nat
  | 0 => 0
  | n + 1 => if lbF P n < n then lbF P n else if P n = true then n else n + 1
theorem lbF_le {P : Nat → Bool} : ∀ n : Nat, lbF P n ≤ n := by
  intro n
  induction n with
  | zero => exact Nat.le_refl 0
  | succ n ih =>
    rw [lbF]
    by_cases c : lbF P n < n
    · rw [if_pos c]; omega
    · rw [if_neg c]
      by_cases d : P n = true
      · rw [if_pos d]; omega
      · rw [if_neg d]; omega
theorem lbF_no {P : Nat → Bool} {k : Nat} (h : lbF P k = k) (hp : P k = false) : lbF P (k + 1) = k + 1 := by
  rw [lbF, h, if_neg (Nat.lt_irrefl k), if_neg (by rw [hp]; decide)]
theorem lbF_hit {P : Nat → Bool} {k : Nat} (h : lbF P k = k) (hp : P k = true) : ∀ d : Nat, lbF P (k + 1 + d) = k := by
  intro d
  induction d with
  | zero => show lbF P (k + 1) = k; rw [lbF, h, if_neg (Nat.lt_irrefl k), if_pos hp]
  | succ d ih =>
    show lbF P (k + 1 + d + 1) = k
    rw [lbF, ih, if_pos (by omega)]
theorem lbF_at {P : Nat → Bool} {k n : Nat} (h : lbF P k = k) (hp : P k = true) (hk : k < n) : lbF P n = k := by
  rw [show n = k + 1 + (n - (k + 1)) by omega]
  exact lbF_hit h hp _
theorem lbF_P {P : Nat → Bool} : ∀ n : Nat, lbF P n < n → P (lbF P n) = true := by
  intro n
  induction n with
  | zero => intro h; exact absurd h (Nat.not_lt_zero _)
  | succ n ih =>
    intro h
    rw [lbF] at h ⊢
    by_cases c : lbF P n < n
    · rw [if_pos c] at h ⊢; exact ih c
    · rw [if_neg c] at h ⊢
      by_cases d : P n = true
      · rw [if_pos d]; exact d
      · rw [if_neg d] at h; exact absurd h (Nat.lt_irrefl _)
theorem lbF_min {P : Nat → Bool} {d : Nat} (hp : P d = true) : ∀ n : Nat, d < n → lbF P n ≤ d := by
  intro n
  induction n with
  | zero => intro h; exact absurd h (Nat.not_lt_zero _)
  | succ n ih =>
    intro h
    rw [lbF]
    by_cases c : lbF P n < n
    · rw [if_pos c]
      by_cases e : d = n
      · omega
      · exact ih (by omega)
    · rw [if_neg c]
      by_cases e : d = n
      · subst e; rw [if_pos hp]; exact Nat.le_refl _
      · have := ih (by omega); omega
/-- the greedy ORDER: what is placed, and what comes -/
def grS (ah : Nat → Nat) (n : Nat) : Nat → Nat
  | 0 => 0
  | j + 1 => grS ah n j ||| 2 ^ lbF (avB ah (grS ah n j)) n
def grD (ah : Nat → Nat) (n j : Nat) : Nat := lbF (avB ah (grS ah n j)) n
theorem gr_first {n : Nat} {ah : Nat → Nat} {x : Nat} (hn : 1 ≤ n) (h5 : n ≤ 5) (hx : x < n ^ n) (hg : hgood n ah n x) (hm : ∀ y, y < x → ¬ hgood n ah n y) : ∀ j, j ≤ n → (hset n j (x / n ^ (n - j)) = grS ah n j ∧ ∀ i, i < j → hdg n x i = grD ah n i) := by
  intro j
  induction j with
  | zero => intro _; exact ⟨rfl, fun i hi => absurd hi (Nat.not_lt_zero i)⟩
  | succ j ih =>
    intro hj
    obtain ⟨i1, i2⟩ := ih (by omega)
    have d := Nat.mod_lt (x / n ^ (n - 1 - j)) hn
    have g := hgood_p (n - (j + 1)) (j + 1) x (by rw [show j + 1 + (n - (j + 1)) = n by omega]; exact hg)
    have ep := pfx (x := x) (show j < n by omega)
    rw [ep] at g
    have a := (hgood_s d).mp g
    rw [i1] at a
    have e : x / n ^ (n - 1 - j) % n = grD ah n j := by
      have l1 : grD ah n j ≤ x / n ^ (n - 1 - j) % n := lbF_min a.2 n d
      by_cases c : grD ah n j = x / n ^ (n - 1 - j) % n
      · exact c.symm
      · exfalso
        have ld : grD ah n j < n := by omega
        have av : avB ah (hset n j (x / n ^ (n - j))) (grD ah n j) = true := by rw [i1]; exact lbF_P n ld
        have hy : n * (x / n ^ (n - j)) + grD ah n j < n ^ (j + 1) := by
          have h1 : x / n ^ (n - (j + 1)) < n ^ (j + 1) := by
            refine Nat.div_lt_of_lt_mul ?_
            rw [← Nat.pow_add, show n - (j + 1) + (j + 1) = n by omega]
            exact hx
          rw [ep] at h1
          omega
        obtain ⟨y, y1, y2, y3⟩ := ext_0 hn h5 hg (m := j + 1) (by omega) hy ((hgood_s ld).mpr ⟨a.1, av⟩)
        refine hm y ?_ y2
        refine Nat.lt_of_not_le (fun q => ?_)
        have h2 := Nat.div_le_div_right (c := n ^ (n - (j + 1))) q
        rw [y3, ep] at h2
        omega
    refine ⟨?_, fun i hi => ?_⟩
    · rw [ep, hset_s d, i1, e]
      rfl
    · by_cases c : i = j
      · subst c; exact e
      · exact i2 i (by omega)
theorem gr_lt {n : Nat} {ah : Nat → Nat} {x : Nat} (hn : 1 ≤ n) (h5 : n ≤ 5) (hx : x < n ^ n) (hg : hgood n ah n x) (hm : ∀ y, y < x → ¬ hgood n ah n y) : ∀ j, j < n → grD ah n j < n := by
  intro j hj
  rw [← (gr_first hn h5 hx hg hm n (Nat.le_refl _)).2 j hj]
  exact Nat.mod_lt _ hn
