-- the answers of orders, as functions
theorem or_exists {n : Nat} {lt hv : Nat → Nat} {np : Nat} (h2 : 2 ≤ n) (h5 : n ≤ 5) (hp : ∀ k, k < np → (lt k < n ∧ hv k < n)) (hw : ¬ Wm n (hAh lt hv np) n (2 ^ n - 1) = 0) : frsB (gdB n lt hv np) (n ^ n) < n ^ n ∧ hgood n (hAh lt hv np) n (frsB (gdB n lt hv np) (n ^ n)) ∧ ∀ y, y < frsB (gdB n lt hv np) (n ^ n) → ¬ hgood n (hAh lt hv np) n y := by
  rw [← cnt_Wm h2 h5 hp] at hw
  obtain ⟨a, b, c⟩ := cntB_ex (n ^ n) hw
  exact ⟨a, (gd_g h2 h5 hp).mp b, fun y hy g => hs_tf ((gd_g h2 h5 hp).mpr g) (c y hy)⟩
theorem R_go {n : Nat} {lt hv : Nat → Nat} {np : Nat} (h2 : 2 ≤ n) (h5 : n ≤ 5) (hp : ∀ k, k < np → (lt k < n ∧ hv k < n)) (hw : ¬ Wm n (hAh lt hv np) n (2 ^ n - 1) = 0) : ∀ j, j < n → grD (hAh lt hv np) n j < n := by
  obtain ⟨a, b, c⟩ := or_exists h2 h5 hp hw
  exact gr_lt (by omega) h5 a b c
def btN (P : Nat → Bool) : Nat → Nat
  | 0 => 0
  | n + 1 => if P n = true then btN P n ||| 2 ^ n else btN P n
theorem btN_t {P : Nat → Bool} {h : Nat} : ∀ n : Nat, (btN P n).testBit h = true ↔ (h < n ∧ P h = true) := by
  intro n
  induction n with
  | zero => exact ⟨fun z => absurd z (by show ¬ (0 : Nat).testBit h = true; rw [Nat.zero_testBit]; decide), fun z => absurd z.1 (Nat.not_lt_zero h)⟩
  | succ n ih =>
    by_cases e : P n = true
    · rw [btN, if_pos e, Nat.testBit_or, Bool.or_eq_true, ih, Nat.testBit_two_pow, decide_eq_true_eq]
      constructor
      · rintro (⟨a, b⟩ | a)
        · exact ⟨by omega, b⟩
        · subst a; exact ⟨by omega, e⟩
      · rintro ⟨a, b⟩
        by_cases c : n = h
        · exact Or.inr c
        · exact Or.inl ⟨by omega, b⟩
    · rw [btN, if_neg e, ih]
      constructor
      · rintro ⟨a, b⟩; exact ⟨by omega, b⟩
      · rintro ⟨a, b⟩
        by_cases c : h = n
        · subst c; exact absurd b e
        · exact ⟨by omega, b⟩
theorem btN_I {P : Nat → Bool} : ∀ n, n ≤ 5 → (btN P n < 32 ∧ A_btP P n = nI (btN P n)) := by
  intro n
  induction n with
  | zero => intro _; exact ⟨(by decide : 0 < 32), rfl⟩
  | succ n ih =>
    intro h
    obtain ⟨a, b⟩ := ih (by omega)
    by_cases e : P n = true
    · rw [btN, if_pos e, A_btP, if_pos e, b]
      exact ⟨Nat.or_lt_two_pow (n := 5) a (Nat.pow_lt_pow_right (by decide) (by omega)), hs_or5 _ a n (by omega)⟩
    · rw [btN, if_neg e, A_btP, if_neg e]
      exact ⟨a, b⟩
def A_hv (ah : Nat → Nat) (n : Nat) : Nat → Int32
  | 0 => nI (2 ^ n - 1)
  | k + 1 => A_hv ah n k &&& (nI (ah k) ^^^ (-1))
def hvN (ah : Nat → Nat) (n : Nat) : Nat → Nat
  | 0 => 2 ^ n - 1
  | k + 1 => hvN ah n k &&& (ah k ^^^ 31)
theorem hs_andx : ∀ a, a < 32 → ∀ b, b < 32 → nI a &&& (nI b ^^^ (-1)) = nI (a &&& (b ^^^ 31)) := by decide +kernel
theorem hs_andt : ∀ a, a < 32 → ∀ b, b < 32 → ∀ h, h < 5 → ((a &&& (b ^^^ 31)).testBit h = (a.testBit h && !b.testBit h) ∧ a &&& (b ^^^ 31) < 32) := by decide +kernel
theorem hs_fullt : ∀ n, n < 6 → ∀ h, h < 5 → ((2 ^ n - 1).testBit h = decide (h < n) ∧ 2 ^ n - 1 < 32) := by decide +kernel
theorem hvN_I {ah : Nat → Nat} {n : Nat} (hn : n ≤ 5) (ha : ∀ h, h < 5 → ah h < 32) : ∀ k, k ≤ 5 → (hvN ah n k < 32 ∧ A_hv ah n k = nI (hvN ah n k) ∧ ∀ h, h < 5 → ((hvN ah n k).testBit h = true ↔ (h < n ∧ ∀ j, j < k → (ah j).testBit h = false))) := by
  intro k
  induction k with
  | zero => intro _; exact ⟨(hs_fullt n (by omega) 0 (by decide)).2, rfl, fun h hh => by
      show (2 ^ n - 1).testBit h = true ↔ _
      rw [(hs_fullt n (by omega) h hh).1, decide_eq_true_eq]
      exact ⟨fun z => ⟨z, fun j hj => absurd hj (Nat.not_lt_zero j)⟩, fun z => z.1⟩⟩
  | succ k ih =>
    intro hk
    obtain ⟨a, b, c⟩ := ih (by omega)
    have hak := ha k (by omega)
    refine ⟨(hs_andt _ a _ hak 0 (by decide)).2, ?_, fun h hh => ?_⟩
    · rw [A_hv, b, hvN]; exact hs_andx _ a _ hak
    · rw [hvN, (hs_andt _ a _ hak h hh).1, Bool.and_eq_true, c h hh, Bool.not_eq_true']
      constructor
      · rintro ⟨⟨d, e⟩, f⟩
        refine ⟨d, fun j hj => ?_⟩
        by_cases z : j = k
        · subst z; exact f
        · exact e j (by omega)
      · rintro ⟨d, e⟩
        exact ⟨⟨d, fun j hj => e j (by omega)⟩, e k (by omega)⟩
theorem bits5 {a b : Nat} (ha : a < 32) (hb : b < 32) (h : ∀ i, i < 5 → (a.testBit i = true ↔ b.testBit i = true)) : a = b := by
  refine Nat.eq_of_testBit_eq (fun i => ?_)
  by_cases c : i < 5
  · have z := h i c
    cases p : a.testBit i <;> cases q : b.testBit i
    · rfl
    · exact absurd (z.mpr q) (by rw [p]; decide)
    · exact absurd (z.mp p) (by rw [q]; decide)
    · rfl
  · have e : 2 ^ 5 ≤ 2 ^ i := Nat.pow_le_pow_right (by decide) (by omega)
    rw [Nat.testBit_lt_two_pow (by omega), Nat.testBit_lt_two_pow (by omega)]
theorem borB_lt {g : Nat → Bool} {d : Nat → Nat} (hd : ∀ x, d x < 5) : ∀ m : Nat, borB g d m < 32 := by
  intro m
  induction m with
  | zero => exact (by decide : 0 < 32)
  | succ m ih =>
    rw [borB]
    by_cases e : g m = true
    · rw [if_pos e]; exact Nat.or_lt_two_pow (n := 5) ih (Nat.pow_lt_pow_right (by decide) (hd m))
    · rw [if_neg e]; exact ih
theorem hs_n0b : ∀ a, a < 32 → ∀ h, h < 5 → (a.testBit h = false → a &&& 2 ^ h = 0) := by decide +kernel
theorem hs_2t : ∀ h, h < 5 → 2 ^ h < 32 := by decide
theorem R_light {n : Nat} {lt hv : Nat → Nat} {np : Nat} (h2 : 2 ≤ n) (h5 : n ≤ 5) (hp : ∀ k, k < np → (lt k < n ∧ hv k < n)) (hw : ¬ Wm n (hAh lt hv np) n (2 ^ n - 1) = 0) : A_btP (fun h => decide (hAh lt hv np h = 0)) n = nI (borB (gdB n lt hv np) (fun x => hdg n x 0) (n ^ n)) := by
  obtain ⟨a, b⟩ := btN_I (P := fun h => decide (hAh lt hv np h = 0)) n h5
  obtain ⟨-, hz, -⟩ := or_exists h2 h5 hp hw
  rw [b]
  congr 1
  refine bits5 a (borB_lt (fun x => Nat.lt_of_lt_of_le (Nat.mod_lt _ (by omega)) h5) _) (fun h hh => ?_)
  rw [btN_t, borB_t, decide_eq_true_eq]
  constructor
  · rintro ⟨c, d⟩
    have g1 : hgood n (hAh lt hv np) 1 (n * 0 + h) := (hgood_s c).mpr ⟨trivial, avB_iff.mpr ⟨Nat.zero_testBit h, by show decide (hAh lt hv np h &&& 0 = hAh lt hv np h) = true; rw [d]; decide⟩⟩
    rw [Nat.mul_zero, Nat.zero_add] at g1
    obtain ⟨x, x1, x2, x3⟩ := ext_0 (by omega) h5 hz (m := 1) (by omega) (by rw [Nat.pow_one]; exact c) g1
    refine ⟨x, x1, (gd_g h2 h5 hp).mpr x2, ?_⟩
    show x / n ^ (n - 1 - 0) % n = h
    rw [Nat.sub_zero, x3, Nat.mod_eq_of_lt c]
  · rintro ⟨x, x1, x2, x3⟩
    have g := hgood_p (n - 1) 1 x (by rw [show 1 + (n - 1) = n by omega]; exact (gd_g h2 h5 hp).mp x2)
    have e : x / n ^ (n - 1) % n = h := x3
    have q : hmc (hAh lt hv np) (x / n ^ (n - 1) % n) 0 = true := g.2.2
    rw [e] at q
    refine ⟨by rw [← e]; exact Nat.mod_lt _ (by omega), ?_⟩
    have r := of_decide_eq_true q
    rw [Nat.and_zero] at r
    exact r.symm
theorem R_heavy {n : Nat} {lt hv : Nat → Nat} {np : Nat} (h2 : 2 ≤ n) (h5 : n ≤ 5) (hp : ∀ k, k < np → (lt k < n ∧ hv k < n)) (hw : ¬ Wm n (hAh lt hv np) n (2 ^ n - 1) = 0) : A_hv (hAh lt hv np) n n = nI (borB (gdB n lt hv np) (fun x => hdg n x (n - 1)) (n ^ n)) := by
  have ha : ∀ h, hAh lt hv np h < 32 := fun h => hAh_lt np h (fun i hi => Nat.lt_of_lt_of_le (hp i hi).1 h5)
  obtain ⟨a, b, t⟩ := hvN_I (ah := hAh lt hv np) h5 (fun h _ => ha h) n h5
  obtain ⟨-, hz, -⟩ := or_exists h2 h5 hp hw
  rw [b]
  congr 1
  refine bits5 a (borB_lt (fun x => Nat.lt_of_lt_of_le (Nat.mod_lt _ (by omega)) h5) _) (fun h hh => ?_)
  rw [t h hh, borB_t]
  constructor
  · rintro ⟨c, d⟩
    have hX : ∀ e, e < n → hAh lt hv np e &&& 2 ^ h = 0 := fun e he => hs_n0b _ (ha e) h hh (d e he)
    obtain ⟨x, x1, x2, x3, x4⟩ := ext_all (X := 2 ^ h) (t := n - 1) (by omega) h5 hX (hs_2t h hh) hz (fun S hS hq q => by
      have u := hpop_sub n (by omega) _ (Nat.or_lt_two_pow (n := 5) hS (hs_2t h hh)) q
      have v := hpop_or1 S hS h hh
      omega) (n - 1) 0 0 (by omega) (by rw [Nat.pow_zero]; decide) trivial (fun e _ => Nat.zero_testBit e)
    have hs := x4 h (by rw [Nat.testBit_two_pow]; exact decide_eq_true rfl)
    have S5 := hset_lt (show 1 ≤ n by omega) h5 (n - 1) x
    have pp := good_pop (show 1 ≤ n by omega) h5 (n - 1) x x2
    rcases ext_av (X := 0) (show 1 ≤ n by omega) h5 (fun e _ => Nat.and_zero _) (by decide) S5 hz n (Nat.le_refl _) with q | ⟨e, he, -, av⟩
    · rw [Nat.sub_self, Nat.pow_zero, Nat.div_one, good_full (by omega) h5 hz, Nat.or_zero] at q
      have := hpop_sub n (by omega) _ S5 q
      omega
    · have eh : e = h := hpop_one n (by omega) _ (hset_lt2 (by omega) (n - 1) x) e he h c (by omega) (avB_iff.mp av).1 hs
      subst eh
      have g : hgood n (hAh lt hv np) (n - 1 + 1) (n * x + e) := (hgood_s he).mpr ⟨x2, av⟩
      rw [show n - 1 + 1 = n by omega] at g
      refine ⟨n * x + e, ?_, (gd_g h2 h5 hp).mpr g, ?_⟩
      · have h1 : n * (x + 1) ≤ n * n ^ (n - 1) := Nat.mul_le_mul_left n x1
        have h3 : n * n ^ (n - 1) = n ^ n := by rw [Nat.mul_comm, ← Nat.pow_succ, show (n - 1).succ = n by omega]
        rw [h3, Nat.mul_add, Nat.mul_one] at h1
        omega
      · show (n * x + e) / n ^ (n - 1 - (n - 1)) % n = e
        rw [Nat.sub_self, Nat.pow_zero, Nat.div_one, Nat.mul_add_mod, Nat.mod_eq_of_lt he]
  · rintro ⟨x, x1, x2, x3⟩
    have g0 := (gd_g h2 h5 hp).mp x2
    have e : x % n = h := by
      have z : x / n ^ (n - 1 - (n - 1)) % n = h := x3
      rw [Nat.sub_self, Nat.pow_zero, Nat.div_one] at z
      exact z
    have fl := good_full (show 1 ≤ n by omega) h5 g0
    obtain ⟨m, hm⟩ : ∃ m, n = m + 1 := ⟨n - 1, by omega⟩
    have g : hgood n (hAh lt hv np) (m + 1) x := by rw [← hm]; exact g0
    have f2 : hset n (m + 1) x = 2 ^ n - 1 := by rw [← hm]; exact fl
    have f3 : hset n m (x / n) ||| 2 ^ (x % n) = 2 ^ n - 1 := f2
    obtain ⟨g1, g2, g3⟩ := g
    rw [e] at g2 g3 f3
    have hc : h < n := by rw [← e]; exact Nat.mod_lt _ (by omega)
    refine ⟨hc, fun j hj => ?_⟩
    cases q : (hAh lt hv np j).testBit h with
    | false => rfl
    | true =>
      exfalso
      have jf : (hset n m (x / n) ||| 2 ^ h).testBit j = true := by
        rw [f3, (hs_fullt n (by omega) j (by omega)).1]; exact decide_eq_true hj
      rw [Nat.testBit_or, Nat.testBit_two_pow, Bool.or_eq_true, decide_eq_true_eq] at jf
      rcases jf with jf | jf
      · exact hs_tf (bit_sub (good_dc (by omega) m (x / n) g1 j jf) q) g2
      · subst jf
        exact hs_tf (bit_sub (of_decide_eq_true g3) q) g2
theorem R_firstO {n : Nat} {lt hv : Nat → Nat} {np : Nat} (h2 : 2 ≤ n) (h5 : n ≤ 5) (hp : ∀ k, k < np → (lt k < n ∧ hv k < n)) (hw : ¬ Wm n (hAh lt hv np) n (2 ^ n - 1) = 0) : ∀ j, j < n → grD (hAh lt hv np) n j = hdg n (frsB (gdB n lt hv np) (n ^ n)) j := by
  obtain ⟨a, b, c⟩ := or_exists h2 h5 hp hw
  intro j hj
  exact ((gr_first (by omega) h5 a b c n (Nat.le_refl _)).2 j hj).symm
def A_orQ (a b c : Int32) (d : Nat → Int32) (n : Nat) (what : Int32) : Int32 := if what = 0 then a else if what = 1 then b else if what = 2 then c else if hsin what 10 (nI (9 + n)) = true then d (what.toNatClampNeg - 10) else -1
theorem hs_orj : ∀ j, j < 5 → (¬ nI (j + 10) = 0 ∧ ¬ nI (j + 10) = 1 ∧ ¬ nI (j + 10) = 2 ∧ (nI (j + 10)).toNatClampNeg - 10 = j) := by decide +kernel
theorem hs_ork : ∀ n, n < 6 → ∀ j, j < n → hsin (nI (j + 10)) 10 (nI (9 + n)) = true := by decide +kernel
theorem A_orQ_j {a b c : Int32} {d : Nat → Int32} {n j : Nat} (hn : n ≤ 5) (hj : j < n) : A_orQ a b c d n (nI (j + 10)) = d j := by
  obtain ⟨h0, h1, h2, h3⟩ := hs_orj j (by omega)
  rw [A_orQ, if_neg h0, if_neg h1, if_neg h2, if_pos (hs_ork n (by omega) j hj), h3]
theorem hs_10e {what : Int32} {n : Nat} (hn1 : 1 ≤ n) (hn : n ≤ 5) (h : hsin what 10 (nI (9 + n)) = true) : ∃ j, j < n ∧ what = nI (j + 10) := by
  obtain ⟨k, h1, h2, h3⟩ := hs_rng (lo := 10) (hi := 9 + n) (by omega) (by omega) h
  exact ⟨k - 10, by omega, by rw [h3, show k - 10 + 10 = k by omega]⟩
theorem A_orQ_bad {a b c : Int32} {d : Nat → Int32} {n : Nat} {what : Int32} (hn1 : 1 ≤ n) (hn : n ≤ 5) (h1 : hsin what 0 2 = false) (h2 : hsin (what - 10) 0 (nI n - 1) = false) : A_orQ a b c d n what = -1 := by
  have z : ∀ x : Int32, hsin x 0 2 = true → ¬ what = x := fun x hx e => by rw [e] at h1; exact hs_tf hx h1
  rw [A_orQ, if_neg (z 0 (by decide)), if_neg (z 1 (by decide)), if_neg (z 2 (by decide))]
  refine if_neg (fun h => ?_)
  obtain ⟨j, hj, e⟩ := hs_10e hn1 hn h
  have e2 : what - 10 = nI j := by
    rw [e]
    exact (pk_sub (a := j + 10) (b := 10) (by omega)).trans (congrArg nI (by omega))
  rw [e2, hslt_in (by omega), hslt_n9 hj (by omega)] at h2
  exact absurd h2 (by decide)
theorem A_orQ_c {a a2 b b2 c c2 : Int32} {d d2 : Nat → Int32} {n : Nat} {what : Int32} (hn1 : 1 ≤ n) (hn : n ≤ 5) (ha : a = a2) (hb : b = b2) (hc : c = c2) (hd : ∀ j, j < n → d j = d2 j) : A_orQ a b c d n what = A_orQ a2 b2 c2 d2 n what := by
  subst ha hb hc
  by_cases h : hsin what 10 (nI (9 + n)) = true
  · obtain ⟨j, hj, e⟩ := hs_10e hn1 hn h
    rw [e, A_orQ_j hn hj, A_orQ_j hn hj, hd j hj]
  · unfold A_orQ
    rw [if_neg h, if_neg h]
theorem hs_tb5 : ∀ S, S < 32 → ∀ h, h < 5 → ((nI S >>> (nI h &&& 31)) &&& 1 = 0 ↔ S.testBit h = false) := by decide +kernel
theorem nI_n4 : ∀ x, x < 5 → ¬ nI x = -4 := by decide +kernel
theorem avB_f1 {ah : Nat → Nat} {S d : Nat} (h : ¬ S.testBit d = false) : avB ah S d = false := by
  cases c : avB ah S d with
  | false => rfl
  | true => exact absurd (avB_iff.mp c).1 h
theorem avB_f2 {ah : Nat → Nat} {S d : Nat} (h : hmc ah d S = false) : avB ah S d = false := by
  cases c : avB ah S d with
  | false => rfl
  | true => exact hs_tf (avB_iff.mp c).2 h
def A_ordC (N : Nat → Nat) (F : Nat → Nat → Int32) (what : Int32) : Int32 := A_orQ (nI (Wm (N 2) (hAh (hLt F) (hHv F) (N 3)) (N 2) (2 ^ N 2 - 1))) (A_btP (fun h => decide (hAh (hLt F) (hHv F) (N 3) h = 0)) (N 2)) (A_hv (hAh (hLt F) (hHv F) (N 3)) (N 2) (N 2)) (fun j => nI (grD (hAh (hLt F) (hHv F) (N 3)) (N 2) j)) (N 2) what
def A_ordM (n np : Nat) (lt hv : Nat → Nat) (what : Int32) : Int32 := A_orQ (nI (cntB (gdB n lt hv np) (n ^ n))) (nI (borB (gdB n lt hv np) (fun x => hdg n x 0) (n ^ n))) (nI (borB (gdB n lt hv np) (fun x => hdg n x (n - 1)) (n ^ n))) (fun j => nI (hdg n (frsB (gdB n lt hv np) (n ^ n)) j)) n what
theorem R_orders {N : Nat → Nat} {J : Nat → Int32} {F : Nat → Nat → Int32} {g : Nat → Int32} {pe hm : Nat} {what : Int32} (hR : rT N J F g pe hm) (hK : thK N J F) : A_ordC N F what = A_ordM hm (N 3) (hLt F) (hHv F) what := by
  have e2 := hR.2.2.2.1
  subst e2
  have I2 := hK.1.2.2.1
  have hp := hK.2.2.2.2.1
  have hw := hK.2.2.2.2.2.1
  exact A_orQ_c (by omega) I2.2 (by rw [cnt_Wm I2.1 I2.2 hp]) (R_light I2.1 I2.2 hp hw) (R_heavy I2.1 I2.2 hp hw) (fun j hj => by rw [R_firstO I2.1 I2.2 hp hw j hj])
