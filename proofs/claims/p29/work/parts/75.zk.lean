-- WHAT CHANGES THE STATE, AS FUNCTIONS
def A_feedT (f : Nat → Int32) (len : Nat) (c : Int32) : Nat → Int32 := if hsin c 0 127 then (if 160 ≤ len then f else upd f len c) else f
theorem A_feedT_by {f : Nat → Int32} {len : Nat} {c : Int32} (h : ∀ q, ¬ f q < 0) : ∀ q, ¬ A_feedT f len c q < 0 := by
  intro q
  unfold A_feedT
  by_cases e : hsin c 0 127 = true
  · rw [if_pos e]
    by_cases e2 : 160 ≤ len
    · rw [if_pos e2]; exact h q
    · rw [if_neg e2]
      by_cases e3 : q = len
      · rw [hs_uq e3]
        have h1 := (hsin_toInt e).1
        rw [Int32.lt_iff_toInt_lt]
        omega
      · rw [hs_un e3]; exact h q
  · rw [if_neg e]; exact h q
theorem hslt_no {v : Int32} {n : Nat} (hn : n < 2 ^ 30) (h : hslt v n = false) : ¬ ∃ j : Nat, j < n ∧ v = nI j := by
  rintro ⟨j, hj, rfl⟩
  rw [hslt_nI (by omega), decide_eq_true hj] at h
  cases h
theorem hslt_yes {v : Int32} {n j : Nat} (hn : n < 2 ^ 30) (hj : j < n) (e : v = nI j) : hslt v n = true := by
  rw [e, hslt_nI (by omega), decide_eq_true hj]
/-- the CELLS behind a are moved on by one, as far as c -/
def shf (w : Nat → Int32) (a c : Nat) : Nat → Int32 := fun q => if a < q ∧ q ≤ c then w (q - 1) else w q
theorem shf_0 {w : Nat → Int32} {c : Nat} : shf w c c = w := by
  funext q
  unfold shf
  rw [if_neg (by omega)]
theorem shf_lo {w : Nat → Int32} {a c q : Nat} (h : q ≤ a) : shf w a c q = w q := by
  unfold shf
  rw [if_neg (by omega)]
theorem shf_hi {w : Nat → Int32} {a c q : Nat} (h : a < q) (h2 : q ≤ c) : shf w a c q = w (q - 1) := by
  unfold shf
  rw [if_pos ⟨h, h2⟩]
theorem shf_out {w : Nat → Int32} {a c q : Nat} (h2 : c < q) : shf w a c q = w q := by
  unfold shf
  rw [if_neg (by omega)]
theorem shf_s {w g : Nat → Int32} {a c : Nat} (hg : g = shf w a c) (h1 : 1 ≤ a) (hc : a ≤ c) (hb : c < 2 ^ 30) : upd g (nI a).toNatClampNeg (g (nI (a - 1)).toNatClampNeg) = shf w (a - 1) c := by
  subst hg
  funext q
  rw [nI_clamp (by omega), nI_clamp (by omega)]
  by_cases e : q = a
  · rw [hs_uq e, shf_lo (by omega), shf_hi (by omega) (by omega), e]
  · rw [hs_un e]
    by_cases e2 : q < a
    · rw [shf_lo (by omega), shf_lo (by omega)]
    · by_cases e3 : q ≤ c
      · rw [shf_hi (by omega) e3, shf_hi (by omega) e3]
      · rw [shf_out (by omega), shf_out (by omega)]
/-- CELL i becomes two (of c) -/
def spW (w : Nat → Int32) (c i : Nat) : Nat → Int32 := upd (upd (shf w (i + 1) c) i ((w i + 1) / 2)) (i + 1) (w i - (w i + 1) / 2)
def spM (s : Nat → Int32) (c i : Nat) : Nat → Int32 := upd (upd (upd (shf s (1 + i) (1 + c)) (1 + i) (s (1 + i) - s (1 + i) / 2)) (1 + i + 1) (s (1 + i) / 2)) 0 (nI (c + 1))
/-- the CELLS from a on come one nearer, ahead of b -/
def shl (w : Nat → Int32) (a b : Nat) : Nat → Int32 := fun q => if a ≤ q ∧ q < b then w (q + 1) else w q
theorem shl_0 {w : Nat → Int32} {a : Nat} : shl w a a = w := by
  funext q
  unfold shl
  rw [if_neg (by omega)]
theorem shl_in {w : Nat → Int32} {a b q : Nat} (h : a ≤ q) (h2 : q < b) : shl w a b q = w (q + 1) := by
  unfold shl
  rw [if_pos ⟨h, h2⟩]
theorem shl_out {w : Nat → Int32} {a b q : Nat} (h : q < a ∨ b ≤ q) : shl w a b q = w q := by
  unfold shl
  rw [if_neg (by omega)]
theorem shl_s {w g : Nat → Int32} {a b : Nat} (hg : g = shl w a b) (h1 : a ≤ b) (hb : b < 2 ^ 30) : upd g (nI b).toNatClampNeg (g (nI (b + 1)).toNatClampNeg) = shl w a (b + 1) := by
  subst hg
  funext q
  rw [nI_clamp (by omega), nI_clamp (by omega)]
  by_cases e : q = b
  · rw [hs_uq e, shl_out (Or.inr (by omega)), shl_in (by omega) (by omega), e]
  · rw [hs_un e]
    by_cases e2 : a ≤ q ∧ q < b
    · rw [shl_in e2.1 e2.2, shl_in e2.1 (by omega)]
    · rw [shl_out (by omega), shl_out (by omega)]
def jmin (x y : Int32) : Int32 := if x + y < 9 then x + y else 9
def jmax (x y : Int32) : Int32 := if 9 < x + y then 9 else x + y
def jnW (w : Nat → Int32) (c i : Nat) : Nat → Int32 := shl (upd w i (jmin (w i) (w (i + 1)))) (i + 1) (c - 1)
def jnM (s : Nat → Int32) (c i : Nat) : Nat → Int32 := shl (upd (upd s (1 + i) (jmax (s (1 + i)) (s (1 + i + 1)))) 0 (nI (c - 1))) (1 + (i + 1)) (1 + (c - 1))
theorem j_half : ∀ x, x < 10 → ((nI x + 1) / 2 = nI x - nI x / 2 ∧ nI x - (nI x + 1) / 2 = nI x / 2 ∧ vp_in ((nI x + 1) / 2) 10 ∧ vp_in (nI x / 2) 10) := by
  intro x hx
  have key : ∀ x, x < 10 → ((nI x + 1) / 2 = nI x - nI x / 2 ∧ nI x - (nI x + 1) / 2 = nI x / 2 ∧ (nI x + 1) / 2 = nI ((x + 1) / 2) ∧ nI x / 2 = nI (x / 2)) := by decide +kernel
  obtain ⟨a, b, c, d⟩ := key x hx
  exact ⟨a, b, by rw [c]; exact vp_in_nI (by omega) (by decide), by rw [d]; exact vp_in_nI (by omega) (by decide)⟩
theorem j_min : ∀ x, x < 10 → ∀ y, y < 10 → (jmin (nI x) (nI y) = jmax (nI x) (nI y) ∧ ∃ z : Nat, z < 10 ∧ jmin (nI x) (nI y) = nI z) := by
  intro x hx y hy
  have key : ∀ x, x < 10 → ∀ y, y < 10 → (jmin (nI x) (nI y) = jmax (nI x) (nI y) ∧ jmin (nI x) (nI y) = nI (if x + y < 9 then x + y else 9)) := by decide +kernel
  refine ⟨(key x hx y hy).1, (if x + y < 9 then x + y else 9), ?_, (key x hx y hy).2⟩
  by_cases e : x + y < 9
  · rw [if_pos e]; omega
  · rw [if_neg e]; decide
-- what the two sides answer to a call and make of the state; c: the class, m: the reference
def cWg (n : Nat) (w : Nat → Int32) (i v r : Int32) (u : Nat → Int32) : Prop := ((hslt i n && hsin v 0 9) = true ∧ r = w i.toNatClampNeg ∧ u = upd w i.toNatClampNeg v) ∨ ((hslt i n && hsin v 0 9) = false ∧ r = -1 ∧ u = w)
def mWg (n : Nat) (s : Nat → Int32) (i v r : Int32) (u : Nat → Int32) : Prop := ((hslt i n && hsin v 0 9) = true ∧ r = s (1 + i.toNatClampNeg) ∧ u = upd s (1 + i.toNatClampNeg) v) ∨ ((hslt i n && hsin v 0 9) = false ∧ r = -1 ∧ u = s)
def cTe (n : Nat) (w : Nat → Int32) (i v r : Int32) (u : Nat → Int32) : Prop := ((hslt i n && hsin v 0 3) = true ∧ r = w i.toNatClampNeg ∧ u = upd w i.toNatClampNeg v) ∨ ((hslt i n && hsin v 0 3) = false ∧ r = -1 ∧ u = w)
def mTe (n : Nat) (s : Nat → Int32) (i v r : Int32) (u : Nat → Int32) : Prop := ((hslt i n && hsin v 0 3) = true ∧ r = s (9 + i.toNatClampNeg) ∧ u = upd s (9 + i.toNatClampNeg) v) ∨ ((hslt i n && hsin v 0 3) = false ∧ r = -1 ∧ u = s)
def cSp (c : Nat) (w : Nat → Int32) (i r : Int32) (u : Nat × (Nat → Int32)) : Prop := (hslt i c = false ∧ r = -1 ∧ u = (c, w)) ∨ (hslt i c = true ∧ 8 ≤ c ∧ r = -3 ∧ u = (c, w)) ∨ (hslt i c = true ∧ c < 8 ∧ r = nI (c + 1) ∧ u = (c + 1, spW w c i.toNatClampNeg))
def mSp (c : Nat) (s : Nat → Int32) (i r : Int32) (u : Nat → Int32) : Prop := (hslt i c = false ∧ r = -1 ∧ u = s) ∨ (hslt i c = true ∧ 8 ≤ c ∧ r = -3 ∧ u = s) ∨ (hslt i c = true ∧ c < 8 ∧ r = nI (c + 1) ∧ u = spM s c i.toNatClampNeg)
def cJn (c : Nat) (w : Nat → Int32) (i r : Int32) (u : Nat × (Nat → Int32)) : Prop := ((¬ ∃ j : Nat, j + 1 < c ∧ i = nI j) ∧ r = -1 ∧ u = (c, w)) ∨ ∃ j : Nat, j + 1 < c ∧ i = nI j ∧ ((c ≤ 2 ∧ r = -2 ∧ u = (c, w)) ∨ (2 < c ∧ r = nI (c - 1) ∧ u = (c - 1, jnW w c j)))
def mJn (c : Nat) (s : Nat → Int32) (i r : Int32) (u : Nat → Int32) : Prop := ((¬ ∃ j : Nat, j + 1 < c ∧ i = nI j) ∧ r = -1 ∧ u = s) ∨ ∃ j : Nat, j + 1 < c ∧ i = nI j ∧ ((c ≤ 2 ∧ r = -2 ∧ u = s) ∨ (2 < c ∧ r = nI (c - 1) ∧ u = jnM s c j))
def cSe (x y what v r : Int32) (u : Int32 × Int32) : Prop := (what = 2 ∧ hsin v 0 9 = true ∧ r = x ∧ u = (v, y)) ∨ (what = 3 ∧ hsin v 0 99 = true ∧ r = y ∧ u = (x, v)) ∨ (¬ (what = 2 ∧ hsin v 0 9 = true) ∧ ¬ (what = 3 ∧ hsin v 0 99 = true) ∧ r = -1 ∧ u = (x, y))
def mSe (s : Nat → Int32) (what v r : Int32) (u : Nat → Int32) : Prop := (what = 2 ∧ hsin v 0 9 = true ∧ r = s 13 ∧ u = upd s 13 v) ∨ (what = 3 ∧ hsin v 0 99 = true ∧ r = s 14 ∧ u = upd s 14 v) ∨ (¬ (what = 2 ∧ hsin v 0 9 = true) ∧ ¬ (what = 3 ∧ hsin v 0 99 = true) ∧ r = -1 ∧ u = s)
def cAp (x y r : Int32) (u : Int32 × Int32) : Prop := (¬ 1 < x ∧ r = -2 ∧ u = (x, y)) ∨ (1 < x ∧ r = (x + 1) / 2 ∧ u = ((x + 1) / 2, y + 1))
def mAp (s : Nat → Int32) (r : Int32) (u : Nat → Int32) : Prop := (s 14 < 2 ∧ r = -2 ∧ u = s) ∨ (¬ s 14 < 2 ∧ r = s 14 - s 14 / 2 ∧ u = upd (upd s 14 (s 14 - s 14 / 2)) 15 (s 15 + 1))
theorem j_app : ∀ x, x < 100 → ((1 < nI x ↔ ¬ nI x < 2) ∧ (nI x + 1) / 2 = nI x - nI x / 2 ∧ (nI x + 1) / 2 = nI ((x + 1) / 2)) := by decide +kernel
def cSn (n c k : Nat) (b q f : Nat → Int32) (i kk fo r : Int32) (u : Nat × (Nat → Int32) × (Nat → Int32) × (Nat → Int32)) : Prop := ((hslt i n && hslt1 kk c && hsin fo 0 2) = false ∧ r = -1 ∧ u = (k, b, q, f)) ∨ ((hslt i n && hslt1 kk c && hsin fo 0 2) = true ∧ 6 ≤ k ∧ r = -3 ∧ u = (k, b, q, f)) ∨ ((hslt i n && hslt1 kk c && hsin fo 0 2) = true ∧ k < 6 ∧ r = nI (k + 1) ∧ u = (k + 1, upd b k i, upd q k kk, upd f k fo))
def seM (s : Nat → Int32) (k : Nat) (i kk fo : Int32) : Nat → Int32 := upd (upd (upd (upd s (26 + 3 * k) i) (26 + 3 * k + 1) kk) (26 + 3 * k + 2) fo) 25 (nI (k + 1))
def mSn (n c k : Nat) (s : Nat → Int32) (i kk fo r : Int32) (u : Nat → Int32) : Prop := ((hslt i n && hslt1 kk c && hsin fo 0 2) = false ∧ r = -1 ∧ u = s) ∨ ((hslt i n && hslt1 kk c && hsin fo 0 2) = true ∧ 6 ≤ k ∧ r = -3 ∧ u = s) ∨ ((hslt i n && hslt1 kk c && hsin fo 0 2) = true ∧ k < 6 ∧ r = nI (k + 1) ∧ u = seM s k i kk fo)
def cFo (k : Nat) (n r : Int32) (u : Nat) : Prop := (hsin n 0 (nI k) = false ∧ r = -1 ∧ u = k) ∨ (hsin n 0 (nI k) = true ∧ r = nI k ∧ n = nI u ∧ u ≤ k)
def mFo (k : Nat) (s : Nat → Int32) (n r : Int32) (u : Nat → Int32) : Prop := (hsin n 0 (nI k) = false ∧ r = -1 ∧ u = s) ∨ (hsin n 0 (nI k) = true ∧ r = nI k ∧ u = upd s 25 n)
def hWx (n : Nat) (lt hv : Nat → Nat) (np a b : Nat) : Nat := Wm n (ahx (hAh lt hv np) a b) n (2 ^ n - 1)
def cLi (n k : Nat) (F : Nat → Nat → Int32) (a b r : Int32) (u : Nat × (Nat → Int32) × (Nat → Int32)) : Prop := ((¬ ∃ x y : Nat, x < n ∧ y < n ∧ ¬ x = y ∧ a = nI x ∧ b = nI y) ∧ r = -1 ∧ u = (k, F 2, F 3)) ∨ ∃ x y : Nat, x < n ∧ y < n ∧ ¬ x = y ∧ a = nI x ∧ b = nI y ∧ ((8 ≤ k ∧ r = -3 ∧ u = (k, F 2, F 3)) ∨ (k < 8 ∧ hWx n (hLt F) (hHv F) k x y = 0 ∧ r = -2 ∧ u = (k, F 2, F 3)) ∨ (k < 8 ∧ ¬ hWx n (hLt F) (hHv F) k x y = 0 ∧ r = nI (k + 1) ∧ u = (k + 1, upd (F 2) k a, upd (F 3) k b)))
def mLi (n k : Nat) (lt hv : Nat → Nat) (s : Nat → Int32) (a b r : Int32) (u : Nat → Int32) : Prop := ((¬ ∃ x y : Nat, x < n ∧ y < n ∧ ¬ x = y ∧ a = nI x ∧ b = nI y) ∧ r = -1 ∧ u = s) ∨ ∃ x y : Nat, x < n ∧ y < n ∧ ¬ x = y ∧ a = nI x ∧ b = nI y ∧ ((8 ≤ k ∧ r = -3 ∧ u = s) ∨ (k < 8 ∧ hWx n lt hv k x y = 0 ∧ r = -2 ∧ u = s) ∨ (k < 8 ∧ ¬ hWx n lt hv k x y = 0 ∧ r = nI (k + 1) ∧ u = upd (upd s (17 + k) (nI (10 * x + y))) 16 (nI (k + 1))))
