-- THE COURT: Euclid's steps (from (b, a)), alike on both sides; they end, and give the greatest common divisor
def A_eu (a b : Int64) : Nat → Int64 × Int64
  | 0 => (b, a)
  | i + 1 => ((A_eu a b i).2, (A_eu a b i).1 - (A_eu a b i).1 / (A_eu a b i).2 * (A_eu a b i).2)
theorem hs_rem64t {x y : Int64} (h : ¬ y = 0) : (x - x / y * y).toInt = x.toInt.tmod y.toInt := by
  have hy : y.toInt ≠ 0 := fun e => h (Int64.toInt_inj.mp (by rw [e]; rfl))
  have hyl := Int64.le_toInt y
  have hyu := Int64.toInt_lt y
  have e1 : (x - x / y * y).toInt = (x.toInt.tmod y.toInt).bmod (2 ^ 64) := by
    rw [Int64.toInt_sub, Int64.toInt_mul, Int64.toInt_div, Int.tmod_def]
    simp [Int.mul_comm]
  have e2 : (x.toInt.tmod y.toInt).natAbs = x.toInt.natAbs % y.toInt.natAbs := Int.natAbs_tmod _ _
  have e3 : (x.toInt.tmod y.toInt).natAbs < y.toInt.natAbs := by
    rw [e2]
    exact Nat.mod_lt _ (by omega)
  rw [e1, Int.bmod_eq_of_le (by omega) (by omega)]
theorem A_eu_n {a b : Int64} {x y : Nat} (ha : a.toInt = (x : Int)) (hb : b.toInt = (y : Int)) : ∀ i : Nat, (∀ j, j < i → ¬ (A_eu a b j).2 = 0) → ∃ p q : Nat, (A_eu a b i).1.toInt = (p : Int) ∧ (A_eu a b i).2.toInt = (q : Int) ∧ Nat.gcd p q = Nat.gcd y x := by
  intro i
  induction i with
  | zero => intro _; exact ⟨y, x, hb, ha, rfl⟩
  | succ i ih =>
    intro h
    obtain ⟨p, q, h1, h2, h3⟩ := ih (fun j hj => h j (by omega))
    refine ⟨q, p % q, h2, ?_, ?_⟩
    · show ((A_eu a b i).1 - (A_eu a b i).1 / (A_eu a b i).2 * (A_eu a b i).2).toInt = ((p % q : Nat) : Int)
      rw [hs_rem64t (h i (by omega)), h1, h2]
      rfl
    · rw [← h3, Nat.gcd_comm q (p % q), ← Nat.gcd_rec, Nat.gcd_comm]
theorem A_modh {p q : Nat} (hq : 0 < q) (h : q ≤ p) : 2 * (p % q) ≤ p := by
  have e := Nat.div_add_mod p q
  have e2 := Nat.mod_lt p hq
  have e3 : 1 ≤ p / q := (Nat.one_le_div_iff hq).mpr h
  have e4 : q * 1 ≤ q * (p / q) := Nat.mul_le_mul_left q e3
  omega
theorem A_eu_s {a b : Int64} {i : Nat} (h : ¬ (A_eu a b i).2 = 0) : (A_eu a b (i + 1)).2.toInt.natAbs = (A_eu a b i).1.toInt.natAbs % (A_eu a b i).2.toInt.natAbs := by
  show ((A_eu a b i).1 - (A_eu a b i).1 / (A_eu a b i).2 * (A_eu a b i).2).toInt.natAbs = _
  rw [hs_rem64t h]
  exact Int.natAbs_tmod _ _
theorem A_eu_h {a b : Int64} : ∀ k : Nat, (∀ j, j < 2 * k → ¬ (A_eu a b j).2 = 0) → (A_eu a b (2 * k)).2.toInt.natAbs * 2 ^ k ≤ a.toInt.natAbs := by
  intro k
  induction k with
  | zero => intro _; show a.toInt.natAbs * 2 ^ 0 ≤ a.toInt.natAbs; omega
  | succ k ih =>
    intro h
    have h0 := ih (fun j hj => h j (by omega))
    have n0 := h (2 * k) (by omega)
    have n1 := h (2 * k + 1) (by omega)
    have s0 := A_eu_s n0
    have s1 := A_eu_s n1
    have z : ∀ w : Int64, ¬ w = 0 → 0 < w.toInt.natAbs := fun w hw => Int.natAbs_pos.mpr (fun e => hw (Int64.toInt_inj.mp (by rw [e]; rfl)))
    have e1 : (A_eu a b (2 * k + 1)).1 = (A_eu a b (2 * k)).2 := rfl
    rw [e1] at s1
    have p0 := z _ n0
    have p1 := z _ n1
    have lt : (A_eu a b (2 * k + 1)).2.toInt.natAbs < (A_eu a b (2 * k)).2.toInt.natAbs := by rw [s0]; exact Nat.mod_lt _ p0
    have m := A_modh p1 (Nat.le_of_lt lt)
    rw [← s1] at m
    rw [show 2 * (k + 1) = 2 * k + 1 + 1 by omega, Nat.pow_succ]
    have m2 := Nat.mul_le_mul_right (2 ^ k) m
    calc (A_eu a b (2 * k + 1 + 1)).2.toInt.natAbs * (2 ^ k * 2) = 2 * (A_eu a b (2 * k + 1 + 1)).2.toInt.natAbs * 2 ^ k := by rw [Nat.mul_comm (2 ^ k) 2, ← Nat.mul_assoc, Nat.mul_comm _ 2]
      _ ≤ (A_eu a b (2 * k)).2.toInt.natAbs * 2 ^ k := m2
      _ ≤ a.toInt.natAbs := h0
theorem A_eu_e {a b : Int64} (ha : a.toInt.natAbs < 2 ^ 40) (h : ∀ j, j < 100 → ¬ (A_eu a b j).2 = 0) : False := by
  have h1 := A_eu_h (a := a) (b := b) 40 (fun j hj => h j (by omega))
  have h2 : 0 < (A_eu a b (2 * 40)).2.toInt.natAbs := Int.natAbs_pos.mpr (fun e => h 80 (by decide) (Int64.toInt_inj.mp (by rw [e]; rfl)))
  have h3 : 1 * 2 ^ 40 ≤ (A_eu a b (2 * 40)).2.toInt.natAbs * 2 ^ 40 := Nat.mul_le_mul_right _ h2
  omega
/-- the greatest common divisor, as a long -/
def A_gI (a b : Int64) : Int64 := Int64.ofNat (Nat.gcd b.toNatClampNeg a.toNatClampNeg)
theorem A_eu_g {a b : Int64} (ha : 0 ≤ a.toInt) (hb : 0 ≤ b.toInt) {i : Nat} (h : ∀ j, j < i → ¬ (A_eu a b j).2 = 0) (h0 : (A_eu a b i).2 = 0) : (A_eu a b i).1 = A_gI a b := by
  obtain ⟨p, q, h1, h2, h3⟩ := A_eu_n (x := a.toNatClampNeg) (y := b.toNatClampNeg) (show a.toInt = ((a.toInt.toNat : Nat) : Int) by omega) (show b.toInt = ((b.toInt.toNat : Nat) : Int) by omega) i h
  rw [h0] at h2
  have q0 : q = 0 := by have z : (0 : Int64).toInt = 0 := rfl; omega
  subst q0
  rw [Nat.gcd_zero_right] at h3
  have hu := Int64.toInt_lt (A_eu a b i).1
  apply Int64.toInt_inj.mp
  rw [A_gI, ← h3, Int64.toInt_ofNat_of_lt (by omega), h1]
-- what PEOPLE tell
def A_sj (v ju : Int32) (q : Nat) : Int32 := if ju >>> (nI q &&& 31) &&& 1 = 1 then 10 - v else v
def A_tl (v ju : Int32) : Nat → Nat → Int64
  | 0 => fun n => if n = 0 then 1 else 0
  | p + 1 => fun n => if n = 0 then A_tl v ju p 0 * (10 - A_sj v ju p).toInt64 else A_tl v ju p n * (10 - A_sj v ju p).toInt64 + A_tl v ju p (n - 1) * (A_sj v ju p).toInt64
def A_b10 : Nat → Int64
  | 0 => 1
  | p + 1 => A_b10 p * 10
def A_tp (T : Nat → Int64) (lo : Nat) : Nat → Int64
  | 0 => 0
  | d + 1 => A_tp T lo d + T (lo + d)
def A_tq (v ju : Int32) : Nat → Int64
  | 0 => 0
  | q + 1 => A_tq v ju q + (A_sj v ju q).toInt64
def A_wy (v l : Int32) : Nat → Int64
  | 0 => 1
  | p + 1 => A_wy v l p * (if l >>> (nI p &&& 31) &&& 1 = 1 then v.toInt64 else (10 - v).toInt64)
def A_jS (v sm : Int32) (pe : Nat) : Nat → Int64
  | 0 => 0
  | l + 1 => A_jS v sm pe l + (if 2 * A_bo (sm ^^^ nI l) 8 ≤ nI pe then 0 else A_wy v (nI l) pe)
def A_tS (v sm : Int32) (pe : Nat) : Nat → Int64
  | 0 => 0
  | l + 1 => A_tS v sm pe l + A_wy v (nI l) pe * (A_bo (sm ^^^ nI l) 8).toInt64
