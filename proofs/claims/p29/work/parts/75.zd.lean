-- THE ORDERS OF THE REFERENCE: numbers below n ^ n, their figures, what is told of them
/-- the last place below the bound where h stands, 0 if there is none -/
def plcU (rv : Nat → Nat) (h : Nat) : Nat → Nat
  | 0 => 0
  | i + 1 => if rv i = h then i else plcU rv h i
theorem plcU_le (rv : Nat → Nat) (h : Nat) : ∀ n : Nat, plcU rv h n ≤ n := by
  intro n
  induction n with
  | zero => exact Nat.le_refl 0
  | succ n ih =>
    show (if rv n = h then n else plcU rv h n) ≤ n + 1
    by_cases e : rv n = h
    · rw [if_pos e]; omega
    · rw [if_neg e]; omega
theorem plcU_congr {r1 r2 : Nat → Nat} (h : Nat) : ∀ n : Nat, (∀ i, i < n → r1 i = r2 i) → plcU r1 h n = plcU r2 h n := by
  intro n
  induction n with
  | zero => intro _; rfl
  | succ n ih =>
    intro e
    show (if r1 n = h then n else plcU r1 h n) = (if r2 n = h then n else plcU r2 h n)
    rw [e n (by omega), ih (fun i hi => e i (by omega))]
def tldB (rv : Nat → Nat) (lt hv : Nat → Nat) (n : Nat) : Nat → Bool
  | 0 => true
  | k + 1 => tldB rv lt hv n k && decide (plcU rv (lt k) n < plcU rv (hv k) n)
theorem tldB_iff {rv lt hv : Nat → Nat} {n : Nat} : ∀ m : Nat, tldB rv lt hv n m = true ↔ ∀ k, k < m → plcU rv (lt k) n < plcU rv (hv k) n := by
  intro m
  induction m with
  | zero => exact ⟨fun _ k hk => absurd hk (Nat.not_lt_zero k), fun _ => rfl⟩
  | succ m ih =>
    show (tldB rv lt hv n m && decide (plcU rv (lt m) n < plcU rv (hv m) n)) = true ↔ _
    rw [Bool.and_eq_true, ih, decide_eq_true_eq]
    constructor
    · rintro ⟨h1, h2⟩ k hk
      by_cases e : k = m
      · rw [e]; exact h2
      · exact h1 k (by omega)
    · intro h
      exact ⟨fun k hk => h k (by omega), h m (by omega)⟩
theorem tldB_congr {rv l1 l2 h1 h2 : Nat → Nat} {n : Nat} : ∀ m : Nat, (∀ k, k < m → (l1 k = l2 k ∧ h1 k = h2 k)) → tldB rv l1 h1 n m = tldB rv l2 h2 n m := by
  intro m
  induction m with
  | zero => intro _; rfl
  | succ m ih =>
    intro e
    show (tldB rv l1 h1 n m && decide (plcU rv (l1 m) n < plcU rv (h1 m) n)) = (tldB rv l2 h2 n m && decide (plcU rv (l2 m) n < plcU rv (h2 m) n))
    rw [ih (fun k hk => e k (by omega)), (e m (by omega)).1, (e m (by omega)).2]
/-- the figures as a set -/
def sB (d : Nat → Nat) : Nat → Nat
  | 0 => 0
  | t + 1 => sB d t ||| 2 ^ d t
theorem sB_congr {d e : Nat → Nat} : ∀ m : Nat, (∀ t, t < m → d t = e t) → sB d m = sB e m := by
  intro m
  induction m with
  | zero => intro _; rfl
  | succ m ih =>
    intro h
    show sB d m ||| 2 ^ d m = sB e m ||| 2 ^ e m
    rw [ih (fun t ht => h t (by omega)), h m (by omega)]
theorem sB_shift {d : Nat → Nat} : ∀ m : Nat, sB d (m + 1) = sB (fun s => d (s + 1)) m ||| 2 ^ d 0 := by
  intro m
  induction m with
  | zero => show 0 ||| 2 ^ d 0 = 0 ||| 2 ^ d 0; rfl
  | succ m ih =>
    show sB d (m + 1) ||| 2 ^ d (m + 1) = (sB (fun s => d (s + 1)) m ||| 2 ^ d (m + 1)) ||| 2 ^ d 0
    rw [ih, Nat.or_assoc, Nat.or_assoc, Nat.or_comm (2 ^ d 0)]
theorem sB_lt {d : Nat → Nat} : ∀ m : Nat, (∀ t, t < m → d t < 5) → sB d m < 32 := by
  intro m
  induction m with
  | zero => intro _; exact (by decide : 0 < 32)
  | succ m ih =>
    intro h
    exact Nat.or_lt_two_pow (n := 5) (ih (fun t ht => h t (by omega))) (Nat.pow_lt_pow_right (by decide) (h m (by omega)))
/-- figure t of x, from behind; all of them as a set -/
def fgU (n x t : Nat) : Nat := x / n ^ t % n
theorem fgU_s (n x t : Nat) : fgU n (x / n) t = fgU n x (t + 1) := by
  unfold fgU
  rw [Nat.div_div_eq_div_mul, Nat.pow_succ, Nat.mul_comm]
theorem fgU_0 (n x : Nat) : fgU n x 0 = x % n := by
  unfold fgU
  rw [Nat.pow_zero, Nat.div_one]
theorem fgU_lt {n x t : Nat} (h : 0 < n) : fgU n x t < n := Nat.mod_lt _ h
def hs2 (n x t : Nat) : Nat := sB (fgU n x) t
theorem hs2_s (n x t : Nat) : hs2 n x (t + 1) = hs2 n x t ||| 2 ^ (x / n ^ t % n) := rfl
/-- figure j of x, from the front -/
def hdg (n x j : Nat) : Nat := x / n ^ (n - 1 - j) % n
theorem hset_sB {n : Nat} : ∀ m x : Nat, hset n m x = sB (fgU n x) m := by
  intro m
  induction m with
  | zero => intro x; rfl
  | succ m ih =>
    intro x
    show hset n m (x / n) ||| 2 ^ (x % n) = _
    rw [sB_shift, ih, fgU_0]
    congr 1
    exact sB_congr m (fun t _ => fgU_s n x t)
/-- the figures ahead of figure t, as a set -/
def preS (d : Nat → Nat) (m t : Nat) : Nat := sB (fun s => d (t + 1 + s)) (m - 1 - t)
theorem hgood_iff {n : Nat} {ah : Nat → Nat} : ∀ m x : Nat, hgood n ah m x ↔ ∀ t, t < m → ((preS (fgU n x) m t).testBit (fgU n x t) = false ∧ hmc ah (fgU n x t) (preS (fgU n x) m t) = true) := by
  intro m
  induction m with
  | zero => intro x; exact ⟨fun _ t ht => absurd ht (Nat.not_lt_zero t), fun _ => trivial⟩
  | succ m ih =>
    intro x
    have e0 : preS (fgU n x) (m + 1) 0 = hset n m (x / n) := by
      rw [hset_sB]
      show sB (fun s => fgU n x (0 + 1 + s)) (m + 1 - 1 - 0) = _
      rw [show m + 1 - 1 - 0 = m by omega]
      exact sB_congr m (fun t _ => by rw [fgU_s, show 0 + 1 + t = t + 1 by omega])
    have e1 : ∀ t, preS (fgU n x) (m + 1) (t + 1) = preS (fgU n (x / n)) m t := by
      intro t
      show sB (fun s => fgU n x (t + 1 + 1 + s)) (m + 1 - 1 - (t + 1)) = sB (fun s => fgU n (x / n) (t + 1 + s)) (m - 1 - t)
      rw [show m + 1 - 1 - (t + 1) = m - 1 - t by omega]
      exact sB_congr _ (fun s _ => by rw [fgU_s, show t + 1 + 1 + s = t + 1 + s + 1 by omega])
    show (hgood n ah m (x / n) ∧ (hset n m (x / n)).testBit (x % n) = false ∧ hmc ah (x % n) (hset n m (x / n)) = true) ↔ _
    constructor
    · rintro ⟨h1, h2, h3⟩ t ht
      cases t with
      | zero => rw [e0, fgU_0]; exact ⟨h2, h3⟩
      | succ t =>
        rw [e1, ← fgU_s]
        exact (ih (x / n)).mp h1 t (by omega)
    · intro h
      have h0 := h 0 (by omega)
      rw [e0, fgU_0] at h0
      refine ⟨(ih (x / n)).mpr (fun t ht => ?_), h0.1, h0.2⟩
      have h9 := h (t + 1) (by omega)
      rw [e1, ← fgU_s] at h9
      exact h9
theorem hs_orand : ∀ A, A < 32 → ∀ S, S < 32 → ∀ l, l < 5 → (((A ||| 2 ^ l) &&& S = (A ||| 2 ^ l)) ↔ (A &&& S = A ∧ S.testBit l = true)) := by decide +kernel
theorem hmc_pairs {lt hv : Nat → Nat} {h S : Nat} (hS : S < 32) : ∀ m : Nat, (∀ k, k < m → lt k < 5) → (hmc (hAh lt hv m) h S = true ↔ ∀ k, k < m → hv k = h → S.testBit (lt k) = true) := by
  intro m
  induction m with
  | zero =>
    intro _
    refine ⟨fun _ k hk => absurd hk (Nat.not_lt_zero k), fun _ => ?_⟩
    show decide (0 &&& S = 0) = true
    rw [Nat.zero_and]
    rfl
  | succ m ih =>
    intro hl
    have h1 := ih (fun k hk => hl k (by omega))
    unfold hmc at h1 ⊢
    rw [decide_eq_true_eq] at h1 ⊢
    have hA := hAh_lt (lt := lt) (hv := hv) m h (fun k hk => hl k (by omega))
    show (if hv m = h then hAh lt hv m h ||| 2 ^ lt m else hAh lt hv m h) &&& S = (if hv m = h then hAh lt hv m h ||| 2 ^ lt m else hAh lt hv m h) ↔ _
    by_cases e : hv m = h
    · rw [if_pos e, hs_orand _ hA S hS (lt m) (hl m (by omega)), h1]
      constructor
      · rintro ⟨a, b⟩ k hk ek
        by_cases e9 : k = m
        · rw [e9]; exact b
        · exact a k (by omega) ek
      · intro a
        exact ⟨fun k hk ek => a k (by omega) ek, a m (by omega) e⟩
    · rw [if_neg e, h1]
      constructor
      · intro a k hk ek
        by_cases e9 : k = m
        · rw [e9] at ek; exact absurd ek e
        · exact a k (by omega) ek
      · intro a k hk ek
        exact a k (by omega) ek
/-- what holds of figures that are all there -/
def pmF (n : Nat) (d : Nat → Nat) : Prop := (∀ t, t < n → (preS d n t).testBit (d t) = false) ∧ (∀ l, l < n → ∀ h, h < n → (plcU (fun i => d (n - 1 - i)) l n < plcU (fun i => d (n - 1 - i)) h n ↔ ∀ t, t < n → d t = h → (preS d n t).testBit l = true)) ∧ (∀ i, i < n → plcU (fun i => d (n - 1 - i)) (d (n - 1 - i)) n = i) ∧ (∀ a, a < n → (plcU (fun i => d (n - 1 - i)) a n < n ∧ d (n - 1 - plcU (fun i => d (n - 1 - i)) a n) = a))
theorem pmF_congr {n : Nat} {d e : Nat → Nat} (h : ∀ t, t < n → d t = e t) (hp : pmF n d) : pmF n e := by
  have hS : ∀ t, preS d n t = preS e n t := fun t => sB_congr _ (fun s hs => h _ (by omega))
  have hP : ∀ a, plcU (fun i => d (n - 1 - i)) a n = plcU (fun i => e (n - 1 - i)) a n := fun a => plcU_congr a n (fun i hi => h _ (by omega))
  obtain ⟨h1, h2, h3, h4⟩ := hp
  refine ⟨fun t ht => ?_, fun l hl q hq => ?_, fun i hi => ?_, fun a ha => ?_⟩
  · rw [← hS t, ← h t ht]; exact h1 t ht
  · rw [← hP l, ← hP q]
    refine (h2 l hl q hq).trans ⟨fun g t ht et => ?_, fun g t ht et => ?_⟩
    · rw [← hS t]; exact g t ht ((h t ht).trans et)
    · rw [hS t]; exact g t ht ((h t ht).symm.trans et)
  · rw [← hP, ← h (n - 1 - i) (by omega)]; exact h3 i hi
  · rw [← hP a]
    have h9 := h4 a ha
    exact ⟨h9.1, by rw [← h _ (by omega)]; exact h9.2⟩
def dlU (L : List Nat) : Nat → Nat := fun t => L.getD t 0
def allU (n : Nat) (p : Nat → Bool) : Bool := (List.range n).all p
theorem allU_iff {n : Nat} {p : Nat → Bool} : allU n p = true ↔ ∀ i, i < n → p i = true := by
  unfold allU
  rw [List.all_eq_true]
  exact ⟨fun h i hi => h i (List.mem_range.mpr hi), fun h i hi => h i (List.mem_range.mp hi)⟩
def pmB (n : Nat) (d : Nat → Nat) : Bool :=
  allU n (fun t => !(preS d n t).testBit (d t)) && (allU n (fun l => allU n (fun h => decide (plcU (fun i => d (n - 1 - i)) l n < plcU (fun i => d (n - 1 - i)) h n) == allU n (fun t => !decide (d t = h) || (preS d n t).testBit l))) && (allU n (fun i => decide (plcU (fun i => d (n - 1 - i)) (d (n - 1 - i)) n = i)) && allU n (fun a => decide (plcU (fun i => d (n - 1 - i)) a n < n) && decide (d (n - 1 - plcU (fun i => d (n - 1 - i)) a n) = a))))
theorem pmB_F {n : Nat} {d : Nat → Nat} (h : pmB n d = true) : pmF n d := by
  unfold pmB at h
  rw [Bool.and_eq_true, Bool.and_eq_true, Bool.and_eq_true] at h
  obtain ⟨h1, h2, h3, h4⟩ := h
  refine ⟨fun t ht => ?_, fun l hl q hq => ?_, fun i hi => of_decide_eq_true (allU_iff.mp h3 i hi), fun a ha => ?_⟩
  · have g := allU_iff.mp h1 t ht
    rw [Bool.not_eq_true'] at g
    exact g
  · have g := allU_iff.mp (allU_iff.mp h2 l hl) q hq
    have g2 : decide (plcU (fun i => d (n - 1 - i)) l n < plcU (fun i => d (n - 1 - i)) q n) = allU n (fun t => !decide (d t = q) || (preS d n t).testBit l) := eq_of_beq g
    constructor
    · intro c t ht et
      rw [decide_eq_true c] at g2
      have g3 := allU_iff.mp g2.symm t ht
      rw [Bool.or_eq_true, Bool.not_eq_true', decide_eq_false_iff_not] at g3
      exact g3.resolve_left (fun z => z et)
    · intro c
      refine of_decide_eq_true (g2.trans (allU_iff.mpr (fun t ht => ?_)))
      rw [Bool.or_eq_true, Bool.not_eq_true', decide_eq_false_iff_not]
      by_cases et : d t = q
      · exact Or.inr (c t ht et)
      · exact Or.inl et
  · have g := allU_iff.mp h4 a ha
    rw [Bool.and_eq_true, decide_eq_true_eq, decide_eq_true_eq] at g
    exact g
theorem pmb2 : allU 2 (fun a => allU 2 (fun b => (!decide (sB (dlU [a, b]) 2 = 3) || pmB 2 (dlU [a, b])))) = true := by decide +kernel
theorem pm2 (a : Nat) (ha : a < 2) (b : Nat) (hb : b < 2) (hf : sB (dlU [a, b]) 2 = 3) : pmF 2 (dlU [a, b]) := by
  have h9 := (allU_iff.mp (allU_iff.mp pmb2 a ha) b hb)
  rw [Bool.or_eq_true, Bool.not_eq_true', decide_eq_false_iff_not] at h9
  exact pmB_F (h9.resolve_left (fun z => z hf))
theorem pmb3 : allU 3 (fun a => allU 3 (fun b => allU 3 (fun c => (!decide (sB (dlU [a, b, c]) 3 = 7) || pmB 3 (dlU [a, b, c]))))) = true := by decide +kernel
theorem pm3 (a : Nat) (ha : a < 3) (b : Nat) (hb : b < 3) (c : Nat) (hc : c < 3) (hf : sB (dlU [a, b, c]) 3 = 7) : pmF 3 (dlU [a, b, c]) := by
  have h9 := (allU_iff.mp (allU_iff.mp (allU_iff.mp pmb3 a ha) b hb) c hc)
  rw [Bool.or_eq_true, Bool.not_eq_true', decide_eq_false_iff_not] at h9
  exact pmB_F (h9.resolve_left (fun z => z hf))
theorem pmb4 : allU 4 (fun a => allU 4 (fun b => allU 4 (fun c => allU 4 (fun d => (!decide (sB (dlU [a, b, c, d]) 4 = 15) || pmB 4 (dlU [a, b, c, d])))))) = true := by decide +kernel
theorem pm4 (a : Nat) (ha : a < 4) (b : Nat) (hb : b < 4) (c : Nat) (hc : c < 4) (d : Nat) (hd : d < 4) (hf : sB (dlU [a, b, c, d]) 4 = 15) : pmF 4 (dlU [a, b, c, d]) := by
  have h9 := (allU_iff.mp (allU_iff.mp (allU_iff.mp (allU_iff.mp pmb4 a ha) b hb) c hc) d hd)
  rw [Bool.or_eq_true, Bool.not_eq_true', decide_eq_false_iff_not] at h9
  exact pmB_F (h9.resolve_left (fun z => z hf))
theorem pmb5 : allU 5 (fun a => allU 5 (fun b => allU 5 (fun c => allU 5 (fun d => allU 5 (fun e => (!decide (sB (dlU [a, b, c, d, e]) 5 = 31) || pmB 5 (dlU [a, b, c, d, e]))))))) = true := by decide +kernel
theorem pm5 (a : Nat) (ha : a < 5) (b : Nat) (hb : b < 5) (c : Nat) (hc : c < 5) (d : Nat) (hd : d < 5) (e : Nat) (he : e < 5) (hf : sB (dlU [a, b, c, d, e]) 5 = 31) : pmF 5 (dlU [a, b, c, d, e]) := by
  have h9 := (allU_iff.mp (allU_iff.mp (allU_iff.mp (allU_iff.mp (allU_iff.mp pmb5 a ha) b hb) c hc) d hd) e he)
  rw [Bool.or_eq_true, Bool.not_eq_true', decide_eq_false_iff_not] at h9
  exact pmB_F (h9.resolve_left (fun z => z hf))
theorem pm_all {n : Nat} {d : Nat → Nat} (h2 : 2 ≤ n) (h5 : n ≤ 5) (hd : ∀ t, t < n → d t < n) (hf : sB d n = 2 ^ n - 1) : pmF n d := by
  rcases (show n = 2 ∨ n = 3 ∨ n = 4 ∨ n = 5 by omega) with rfl | rfl | rfl | rfl
  · have e : ∀ t, t < 2 → dlU [d 0, d 1] t = d t := fun t ht => by rcases (show t = 0 ∨ t = 1 by omega) with rfl | rfl <;> rfl
    exact pmF_congr e (pm2 _ (hd 0 (by decide)) _ (hd 1 (by decide)) ((sB_congr 2 e).trans hf))
  · have e : ∀ t, t < 3 → dlU [d 0, d 1, d 2] t = d t := fun t ht => by rcases (show t = 0 ∨ t = 1 ∨ t = 2 by omega) with rfl | rfl | rfl <;> rfl
    exact pmF_congr e (pm3 _ (hd 0 (by decide)) _ (hd 1 (by decide)) _ (hd 2 (by decide)) ((sB_congr 3 e).trans hf))
  · have e : ∀ t, t < 4 → dlU [d 0, d 1, d 2, d 3] t = d t := fun t ht => by rcases (show t = 0 ∨ t = 1 ∨ t = 2 ∨ t = 3 by omega) with rfl | rfl | rfl | rfl <;> rfl
    exact pmF_congr e (pm4 _ (hd 0 (by decide)) _ (hd 1 (by decide)) _ (hd 2 (by decide)) _ (hd 3 (by decide)) ((sB_congr 4 e).trans hf))
  · have e : ∀ t, t < 5 → dlU [d 0, d 1, d 2, d 3, d 4] t = d t := fun t ht => by rcases (show t = 0 ∨ t = 1 ∨ t = 2 ∨ t = 3 ∨ t = 4 by omega) with rfl | rfl | rfl | rfl | rfl <;> rfl
    exact pmF_congr e (pm5 _ (hd 0 (by decide)) _ (hd 1 (by decide)) _ (hd 2 (by decide)) _ (hd 3 (by decide)) _ (hd 4 (by decide)) ((sB_congr 5 e).trans hf))
/-- a number that is an ORDER in which all that is told holds -/
def gdB (n : Nat) (lt hv : Nat → Nat) (np x : Nat) : Bool := decide (hs2 n x n = 2 ^ n - 1) && tldB (hdg n x) lt hv n np
theorem gd_pm {n : Nat} {lt hv : Nat → Nat} {np x : Nat} (h2 : 2 ≤ n) (h5 : n ≤ 5) (h : gdB n lt hv np x = true) : pmF n (fgU n x) :=
  pm_all h2 h5 (fun _ _ => fgU_lt (by omega)) (of_decide_eq_true (hs_and1 h))
theorem gd_iff {n : Nat} {lt hv : Nat → Nat} {np x : Nat} (h2 : 2 ≤ n) (h5 : n ≤ 5) (hp : ∀ k, k < np → (lt k < n ∧ hv k < n)) : gdB n lt hv np x = true ↔ (hgood n (hAh lt hv np) n x ∧ hset n n x = 2 ^ n - 1) := by
  unfold gdB
  rw [Bool.and_eq_true, decide_eq_true_eq, hset_sB]
  refine ⟨fun h => ⟨?_, h.1⟩, fun h => ⟨h.2, ?_⟩⟩
  · obtain ⟨p1, p2, -, -⟩ := pm_all h2 h5 (fun _ _ => fgU_lt (n := n) (x := x) (by omega)) h.1
    have ht := (tldB_iff np).mp h.2
    refine (hgood_iff n x).mpr (fun t htn => ⟨p1 t htn, ?_⟩)
    refine (hmc_pairs (sB_lt _ (fun s _ => Nat.lt_of_lt_of_le (fgU_lt (by omega)) h5)) np (fun k hk => Nat.lt_of_lt_of_le (hp k hk).1 h5)).mpr (fun k hk ek => ?_)
    exact (p2 (lt k) (hp k hk).1 (hv k) (hp k hk).2).mp (ht k hk) t htn ek.symm
  · obtain ⟨p1, p2, -, -⟩ := pm_all h2 h5 (fun _ _ => fgU_lt (n := n) (x := x) (by omega)) h.2
    have hg := (hgood_iff n x).mp h.1
    refine (tldB_iff np).mpr (fun k hk => (p2 (lt k) (hp k hk).1 (hv k) (hp k hk).2).mpr (fun t htn et => ?_))
    exact (hmc_pairs (sB_lt _ (fun s _ => Nat.lt_of_lt_of_le (fgU_lt (by omega)) h5)) np (fun k hk => Nat.lt_of_lt_of_le (hp k hk).1 h5)).mp (hg t htn).2 k hk et.symm
/-- how many below; the first; what is met at a place -/
def cntB (g : Nat → Bool) : Nat → Nat
  | 0 => 0
  | x + 1 => cntB g x + (if g x = true then 1 else 0)
def frsB (g : Nat → Bool) : Nat → Nat
  | 0 => 0
  | x + 1 => if g x = true then (if cntB g x = 0 then x else frsB g x) else frsB g x
def borB (g : Nat → Bool) (d : Nat → Nat) : Nat → Nat
  | 0 => 0
  | x + 1 => if g x = true then borB g d x ||| 2 ^ d x else borB g d x
theorem cntB_le {g : Nat → Bool} : ∀ m : Nat, cntB g m ≤ m := by
  intro m
  induction m with
  | zero => exact Nat.le_refl 0
  | succ m ih =>
    show cntB g m + (if g m = true then 1 else 0) ≤ m + 1
    by_cases e : g m = true
    · rw [if_pos e]; omega
    · rw [if_neg e]; omega
theorem cntB_sum {g : Nat → Bool} : ∀ m : Nat, cntB g m = hsum (fun x => if g x = true then 1 else 0) m := by
  intro m
  induction m with
  | zero => rfl
  | succ m ih =>
    show cntB g m + (if g m = true then 1 else 0) = hsum (fun x => if g x = true then 1 else 0) m + (if g m = true then 1 else 0)
    rw [ih]
theorem cntB_congr {g k : Nat → Bool} : ∀ m : Nat, (∀ x, x < m → g x = k x) → cntB g m = cntB k m := by
  intro m
  induction m with
  | zero => intro _; rfl
  | succ m ih =>
    intro h
    show cntB g m + (if g m = true then 1 else 0) = cntB k m + (if k m = true then 1 else 0)
    rw [ih (fun x hx => h x (by omega)), h m (by omega)]
theorem pow5 {n : Nat} (h2 : 2 ≤ n) (h5 : n ≤ 5) : 2 ^ n - 1 < 32 ∧ n ^ n ≤ 3125 := by
  rcases (show n = 2 ∨ n = 3 ∨ n = 4 ∨ n = 5 by omega) with rfl | rfl | rfl | rfl <;> decide
/-- how many ORDERS there are: the reference's count is the class's -/
theorem cnt_Wm {n : Nat} {lt hv : Nat → Nat} {np : Nat} (h2 : 2 ≤ n) (h5 : n ≤ 5) (hp : ∀ k, k < np → (lt k < n ∧ hv k < n)) : cntB (gdB n lt hv np) (n ^ n) = Wm n (hAh lt hv np) n (2 ^ n - 1) := by
  rw [← hcnt_eq (by omega) h5 n (2 ^ n - 1) (pow5 h2 h5).1, cntB_sum]
  unfold hcnt
  refine hsum_congr _ (fun x _ => ?_)
  by_cases e : gdB n lt hv np x = true
  · rw [if_pos e, if_pos ((gd_iff h2 h5 hp).mp e)]
  · rw [if_neg e, if_neg (fun z => e ((gd_iff h2 h5 hp).mpr z))]
theorem Wm_le {n : Nat} {lt hv : Nat → Nat} {np : Nat} (h2 : 2 ≤ n) (h5 : n ≤ 5) (hp : ∀ k, k < np → (lt k < n ∧ hv k < n)) : Wm n (hAh lt hv np) n (2 ^ n - 1) ≤ 3125 := by
  rw [← cnt_Wm h2 h5 hp]
  exact Nat.le_trans (cntB_le _) (pow5 h2 h5).2
theorem hsum_le {g : Nat → Nat} {b : Nat} : ∀ m : Nat, (∀ i, i < m → g i ≤ b) → hsum g m ≤ m * b := by
  intro m
  induction m with
  | zero => intro _; show 0 ≤ 0 * b; omega
  | succ m ih =>
    intro h
    show hsum g m + g m ≤ (m + 1) * b
    have h1 := ih (fun i hi => h i (by omega))
    have h2 := h m (by omega)
    rw [Nat.add_mul, Nat.one_mul]
    omega
theorem Wm_le2 {n : Nat} {ah : Nat → Nat} : ∀ m S : Nat, Wm n ah m S ≤ n ^ m := by
  intro m
  induction m with
  | zero =>
    intro S
    show (if S = 0 then 1 else 0) ≤ n ^ 0
    rw [Nat.pow_zero]
    by_cases e : S = 0
    · rw [if_pos e]; omega
    · rw [if_neg e]; omega
  | succ m ih =>
    intro S
    show hsum (fun h => if S.testBit h = true ∧ hmc ah h (S - 2 ^ h) = true then Wm n ah m (S - 2 ^ h) else 0) n ≤ n ^ (m + 1)
    rw [Nat.pow_succ, Nat.mul_comm]
    refine hsum_le n (fun h _ => ?_)
    by_cases e : S.testBit h = true ∧ hmc ah h (S - 2 ^ h) = true
    · rw [if_pos e]; exact ih _
    · rw [if_neg e]; exact Nat.zero_le _
theorem Wm_3125 {n : Nat} {ah : Nat → Nat} {S : Nat} (h5 : n ≤ 5) : Wm n ah n S ≤ 3125 := by
  refine Nat.le_trans (Wm_le2 n S) ?_
  rcases (show n = 0 ∨ n = 1 ∨ n = 2 ∨ n = 3 ∨ n = 4 ∨ n = 5 by omega) with rfl | rfl | rfl | rfl | rfl | rfl <;> decide
/-- one pair more -/
def pxL (lt : Nat → Nat) (np a : Nat) : Nat → Nat := fun j => if j = np then a else lt j
theorem pxL_lt {lt : Nat → Nat} {np a k : Nat} (h : k < np) : pxL lt np a k = lt k := by
  unfold pxL
  rw [if_neg (by omega)]
theorem pxL_at {lt : Nat → Nat} {np a : Nat} : pxL lt np a np = a := by
  unfold pxL
  rw [if_pos rfl]
def ahx (ah : Nat → Nat) (a b : Nat) : Nat → Nat := fun h => if h = b then ah h ||| 2 ^ a else ah h
theorem hAh_congr {l1 l2 h1 h2 : Nat → Nat} {h : Nat} : ∀ m : Nat, (∀ k, k < m → (l1 k = l2 k ∧ h1 k = h2 k)) → hAh l1 h1 m h = hAh l2 h2 m h := by
  intro m
  induction m with
  | zero => intro _; rfl
  | succ m ih =>
    intro e
    show (if h1 m = h then hAh l1 h1 m h ||| 2 ^ l1 m else hAh l1 h1 m h) = (if h2 m = h then hAh l2 h2 m h ||| 2 ^ l2 m else hAh l2 h2 m h)
    rw [ih (fun k hk => e k (by omega)), (e m (by omega)).1, (e m (by omega)).2]
theorem hAh_px {lt hv : Nat → Nat} {np a b : Nat} : hAh (pxL lt np a) (pxL hv np b) (np + 1) = ahx (hAh lt hv np) a b := by
  funext h
  show (if pxL hv np b np = h then hAh (pxL lt np a) (pxL hv np b) np h ||| 2 ^ pxL lt np a np else hAh (pxL lt np a) (pxL hv np b) np h) = (if h = b then hAh lt hv np h ||| 2 ^ a else hAh lt hv np h)
  rw [hAh_congr np (fun k hk => ⟨pxL_lt hk, pxL_lt hk⟩), pxL_at, pxL_at]
  by_cases e : b = h
  · rw [if_pos e, if_pos e.symm]
  · rw [if_neg e, if_neg (fun z => e z.symm)]
def gaB (n : Nat) (lt hv : Nat → Nat) (np a b x : Nat) : Bool := gdB n lt hv np x && decide (plcU (hdg n x) a n < plcU (hdg n x) b n)
theorem gaB_px {n : Nat} {lt hv : Nat → Nat} {np a b x : Nat} : gaB n lt hv np a b x = gdB n (pxL lt np a) (pxL hv np b) (np + 1) x := by
  unfold gaB gdB
  show (decide (hs2 n x n = 2 ^ n - 1) && tldB (hdg n x) lt hv n np && decide (plcU (hdg n x) a n < plcU (hdg n x) b n)) = (decide (hs2 n x n = 2 ^ n - 1) && (tldB (hdg n x) (pxL lt np a) (pxL hv np b) n np && decide (plcU (hdg n x) (pxL lt np a np) n < plcU (hdg n x) (pxL hv np b np) n)))
  rw [tldB_congr (l1 := pxL lt np a) (h1 := pxL hv np b) (l2 := lt) (h2 := hv) np (fun k hk => ⟨pxL_lt hk, pxL_lt hk⟩), pxL_at, pxL_at, Bool.and_assoc]
/-- in how many ORDERS a comes ahead of b: the reference's count is the class's -/
theorem cnt_ab {n : Nat} {lt hv : Nat → Nat} {np a b : Nat} (h2 : 2 ≤ n) (h5 : n ≤ 5) (hp : ∀ k, k < np → (lt k < n ∧ hv k < n)) (ha : a < n) (hb : b < n) : cntB (gaB n lt hv np a b) (n ^ n) = Wm n (ahx (hAh lt hv np) a b) n (2 ^ n - 1) := by
  rw [cntB_congr _ (fun x _ => gaB_px), cnt_Wm h2 h5, hAh_px]
  intro k hk
  by_cases e : k = np
  · rw [e, pxL_at, pxL_at]; exact ⟨ha, hb⟩
  · rw [pxL_lt (by omega), pxL_lt (by omega)]; exact hp k (by omega)
theorem hs_powN {n : Nat} (h1 : 2 ≤ n) (h2 : n ≤ 5) : hspw (nI n) n = nI (n ^ n) ∧ n ^ n ≤ 3125 := by
  rcases (show n = 2 ∨ n = 3 ∨ n = 4 ∨ n = 5 by omega) with rfl | rfl | rfl | rfl <;> exact ⟨by decide, by decide⟩
theorem hsb_nar {b : Bool} : narrow .boolean (.int (hsb b)) = .int (hsb b) := by cases b <;> rfl
theorem hs_row2 {rg : Nat → Int32} {x n lf nb : Nat} (hx : 1 ≤ x) (hb : x < 2 ^ 30) (hxn : x ≤ n) (el : lf = nb / n ^ (n - x)) (h : ∀ j, x ≤ j → j < n → rg j = nI (hdg n nb j)) : ∀ j, x - 1 ≤ j → j < n → upd rg (nI x - 1).toNatClampNeg (nI (lf % n)) j = nI (hdg n nb j) := by
  intro j h1 h2
  rw [hs_pre_eq hx]
  by_cases e : j = x - 1
  · rw [hs_ue (by omega) e, hdg, el, show n - 1 - j = n - x by omega]
  · rw [hs_uc (by omega) e]
    exact h j (by omega) h2
/-- what the loop over the numbers knows -/
def foI (n : Nat) (lt hv : Nat → Nat) (np nb om fio lig hea : Nat) (bh : Nat → Int32) : Prop :=
  om = cntB (gdB n lt hv np) nb ∧ fio = frsB (gdB n lt hv np) nb ∧ lig = borB (gdB n lt hv np) (fun x => hdg n x 0) nb ∧ hea = borB (gdB n lt hv np) (fun x => hdg n x (n - 1)) nb ∧ ∀ a b, a < n → b < n → bh (5 * a + b) = nI (cntB (gaB n lt hv np a b) nb)
theorem foI_no {n : Nat} {lt hv : Nat → Nat} {np nb om fio lig hea : Nat} {bh : Nat → Int32} (h : foI n lt hv np nb om fio lig hea bh) (hg : gdB n lt hv np nb = false) : foI n lt hv np (nb + 1) om fio lig hea bh := by
  obtain ⟨h1, h2, h3, h4, h5⟩ := h
  have hn : ¬ gdB n lt hv np nb = true := by rw [hg]; decide
  refine ⟨?_, ?_, ?_, ?_, fun a b ha hb => ?_⟩
  · rw [cntB, if_neg hn]; exact h1
  · rw [frsB, if_neg hn]; exact h2
  · rw [borB, if_neg hn]; exact h3
  · rw [borB, if_neg hn]; exact h4
  · rw [cntB, if_neg (by rw [gaB, hg, Bool.false_and]; decide)]; exact h5 a b ha hb
theorem foI_yes {n : Nat} {lt hv : Nat → Nat} {np nb om fio lig hea : Nat} {bh b2 : Nat → Int32} (h : foI n lt hv np nb om fio lig hea bh) (hg : gdB n lt hv np nb = true) (hb : ∀ a b, a < n → b < n → b2 (5 * a + b) = nI (cntB (gaB n lt hv np a b) nb + if plcU (hdg n nb) a n < plcU (hdg n nb) b n then 1 else 0)) : foI n lt hv np (nb + 1) (om + 1) (if om = 0 then nb else fio) (lig ||| 2 ^ hdg n nb 0) (hea ||| 2 ^ hdg n nb (n - 1)) b2 := by
  obtain ⟨h1, h2, h3, h4, -⟩ := h
  refine ⟨?_, ?_, ?_, ?_, fun a b ha hb2 => ?_⟩
  · rw [cntB, if_pos hg, h1]
  · rw [frsB, if_pos hg, ← h1, ← h2]
  · rw [borB, if_pos hg, ← h3]
  · rw [borB, if_pos hg, ← h4]
  · rw [hb a b ha hb2, cntB]
    congr 2
    by_cases e : plcU (hdg n nb) a n < plcU (hdg n nb) b n
    · rw [if_pos e, if_pos (by rw [gaB, hg, decide_eq_true e]; rfl)]
    · rw [if_neg e, if_neg (by rw [gaB, hg, decide_eq_false e]; decide)]
/-- how far the pairs of one ORDER are counted -/
def bfn (rv : Nat → Nat) (n i k a b : Nat) : Nat := if plcU rv a n < plcU rv b n ∧ (plcU rv a n < i ∨ (plcU rv a n = i ∧ plcU rv b n < k)) then 1 else 0
theorem bfn_eq {rv : Nat → Nat} {n i k i2 k2 a b : Nat} (h : plcU rv a n < plcU rv b n → ((plcU rv a n < i ∨ (plcU rv a n = i ∧ plcU rv b n < k)) ↔ (plcU rv a n < i2 ∨ (plcU rv a n = i2 ∧ plcU rv b n < k2)))) : bfn rv n i k a b = bfn rv n i2 k2 a b := by
  unfold bfn
  by_cases c : plcU rv a n < plcU rv b n
  · have h9 := h c
    by_cases d : plcU rv a n < i ∨ (plcU rv a n = i ∧ plcU rv b n < k)
    · rw [if_pos ⟨c, d⟩, if_pos ⟨c, h9.mp d⟩]
    · rw [if_neg (fun z => d z.2), if_neg (fun z => d (h9.mpr z.2))]
  · rw [if_neg (fun z => c z.1), if_neg (fun z => c z.1)]
/-- a row of figures that are all there: places and figures answer each other -/
def rwF (n : Nat) (rv : Nat → Nat) : Prop := (∀ i, i < n → (plcU rv (rv i) n = i ∧ rv i < n)) ∧ (∀ a, a < n → (plcU rv a n < n ∧ rv (plcU rv a n) = a))
theorem gd_rw {n : Nat} {lt hv : Nat → Nat} {np x : Nat} (h2 : 2 ≤ n) (h5 : n ≤ 5) (h : gdB n lt hv np x = true) : rwF n (hdg n x) := by
  obtain ⟨-, -, h3, h4⟩ := gd_pm h2 h5 h
  exact ⟨fun i hi => ⟨h3 i hi, Nat.mod_lt _ (by omega)⟩, h4⟩
theorem bj_read {rv : Nat → Nat} {n i k : Nat} {C : Nat → Nat → Nat} {bj : Nat → Int32} (hw : rwF n rv) (h : ∀ a b, a < n → b < n → bj (5 * a + b) = nI (C a b + bfn rv n i k a b)) (hi : i < k) (hk : k < n) : bj (5 * rv i + rv k) = nI (C (rv i) (rv k)) := by
  have h1 := hw.1 i (by omega)
  have h2 := hw.1 k hk
  rw [h _ _ h1.2 h2.2, bfn, if_neg (by rw [h1.1, h2.1]; omega)]
  rfl
theorem bj_step {rv : Nat → Nat} {n i k : Nat} {C : Nat → Nat → Nat} {bj : Nat → Int32} (h5 : n ≤ 5) (hw : rwF n rv) (h : ∀ a b, a < n → b < n → bj (5 * a + b) = nI (C a b + bfn rv n i k a b)) (hi : i < k) (hk : k < n) : ∀ a b, a < n → b < n → upd bj (nI (5 * rv i + rv k)).toNatClampNeg (nI (C (rv i) (rv k) + 1)) (5 * a + b) = nI (C a b + bfn rv n i (k + 1) a b) := by
  intro a b ha hb
  have h1 := hw.1 i (by omega)
  have h2 := hw.1 k hk
  have ga := hw.2 a ha
  have gb := hw.2 b hb
  by_cases e : a = rv i ∧ b = rv k
  · obtain ⟨rfl, rfl⟩ := e
    rw [hs_ue (by omega) rfl, bfn, if_pos (by rw [h1.1, h2.1]; omega)]
  · rw [hs_uc (by omega) (by omega), h a b ha hb]
    congr 2
    refine bfn_eq (fun _ => ?_)
    constructor
    · rintro (g | ⟨g, g2⟩)
      · exact Or.inl g
      · exact Or.inr ⟨g, by omega⟩
    · rintro (g | ⟨g, g2⟩)
      · exact Or.inl g
      · by_cases e2 : plcU rv b n = k
        · exfalso
          refine e ⟨?_, ?_⟩
          · rw [← g]; exact ga.2.symm
          · rw [← e2]; exact gb.2.symm
        · exact Or.inr ⟨g, by omega⟩
theorem bj_in {rv : Nat → Nat} {n i : Nat} {C : Nat → Nat → Nat} {bj : Nat → Int32} (h : ∀ a b, a < n → b < n → bj (5 * a + b) = nI (C a b + bfn rv n i 0 a b)) : ∀ a b, a < n → b < n → bj (5 * a + b) = nI (C a b + bfn rv n i (i + 1) a b) := by
  intro a b ha hb
  rw [h a b ha hb]
  congr 2
  exact bfn_eq (fun c => by omega)
theorem bj_out {rv : Nat → Nat} {n i k : Nat} {C : Nat → Nat → Nat} {bj : Nat → Int32} (hw : rwF n rv) (hk : n ≤ k) (h : ∀ a b, a < n → b < n → bj (5 * a + b) = nI (C a b + bfn rv n i k a b)) : ∀ a b, a < n → b < n → bj (5 * a + b) = nI (C a b + bfn rv n (i + 1) 0 a b) := by
  intro a b ha hb
  have gb := hw.2 b hb
  rw [h a b ha hb]
  congr 2
  exact bfn_eq (fun c => by omega)
theorem bj_start {rv : Nat → Nat} {n : Nat} {C : Nat → Nat → Nat} {bj : Nat → Int32} (h : ∀ a b, a < n → b < n → bj (5 * a + b) = nI (C a b)) : ∀ a b, a < n → b < n → bj (5 * a + b) = nI (C a b + bfn rv n 0 0 a b) := by
  intro a b ha hb
  rw [h a b ha hb, bfn, if_neg (by omega)]
  rfl
theorem bj_end {rv : Nat → Nat} {n i : Nat} {C : Nat → Nat → Nat} {bj : Nat → Int32} (hw : rwF n rv) (hi : n ≤ i) (h : ∀ a b, a < n → b < n → bj (5 * a + b) = nI (C a b + bfn rv n i 0 a b)) : ∀ a b, a < n → b < n → bj (5 * a + b) = nI (C a b + if plcU rv a n < plcU rv b n then 1 else 0) := by
  intro a b ha hb
  have ga := hw.2 a ha
  rw [h a b ha hb]
  congr 2
  unfold bfn
  by_cases c : plcU rv a n < plcU rv b n
  · rw [if_pos c, if_pos ⟨c, by omega⟩]
  · rw [if_neg c, if_neg (fun z => c z.1)]
theorem foI_0 {n : Nat} {lt hv : Nat → Nat} {np : Nat} {bh : Nat → Int32} (h5 : n ≤ 5) (h : ∀ j, j < 25 → bh j = 0) : foI n lt hv np 0 0 0 0 0 bh := ⟨rfl, rfl, rfl, rfl, fun a b ha hb => h (5 * a + b) (by omega)⟩
theorem hahx {af : Nat → Int32} {ah : Nat → Nat} {a b : Nat} (h : ∀ q, q < 5 → (af q = nI (ah q) ∧ ah q < 32)) (ha : a < 5) (hb : b < 5) : ∀ q, q < 5 → (upd af (nI b).toNatClampNeg (nI (ah b ||| 2 ^ a)) q = nI (ahx ah a b q) ∧ ahx ah a b q < 32) := by
  intro q hq
  unfold ahx
  by_cases e : q = b
  · subst e
    rw [hs_ue (by omega) rfl, if_pos rfl]
    exact ⟨rfl, Nat.or_lt_two_pow (n := 5) (h q hq).2 (Nat.pow_lt_pow_right (by decide) ha)⟩
  · rw [hs_uc (by omega) e, if_neg e]
    exact h q hq
theorem hah_back {af : Nat → Int32} {ah : Nat → Nat} {b : Nat} {x : Int32} (h : ∀ q, q < 5 → (af q = nI (ah q) ∧ ah q < 32)) (hb : b < 5) : ∀ q, q < 5 → (upd (upd af (nI b).toNatClampNeg x) (nI b).toNatClampNeg (nI (ah b)) q = nI (ah q) ∧ ah q < 32) := by
  intro q hq
  by_cases e : q = b
  · subst e
    rw [hs_ue (by omega) rfl]
    exact ⟨rfl, (h q hq).2⟩
  · rw [hs_uc (by omega) e, hs_uc (by omega) e]
    exact h q hq
