-- THE TEXT, AS FUNCTIONS: what a TOKEN is
/-- the first place behind p that isn't both ahead of len and of the kind c -/
def hrunN (c : Nat → Bool) (len : Nat) : Nat → Nat → Nat
  | 0, p => p
  | n + 1, p => if p < len ∧ c p = true then hrunN c len n (p + 1) else p
def hrun (c : Nat → Bool) (len p : Nat) : Nat := hrunN c len (len - p) p
theorem hrun_step {c : Nat → Bool} {len p : Nat} (h1 : p < len) (h2 : c p = true) : hrun c len p = hrun c len (p + 1) := by
  unfold hrun
  obtain ⟨n, hn⟩ : ∃ n, len - p = n + 1 := ⟨len - p - 1, by omega⟩
  rw [hn, show len - (p + 1) = n by omega]
  show (if p < len ∧ c p = true then hrunN c len n (p + 1) else p) = hrunN c len n (p + 1)
  rw [if_pos ⟨h1, h2⟩]
theorem hrun_stop {c : Nat → Bool} {len p : Nat} (h : ¬ (p < len ∧ c p = true)) : hrun c len p = p := by
  unfold hrun
  generalize len - p = n
  cases n with
  | zero => rfl
  | succ n =>
    show (if p < len ∧ c p = true then hrunN c len n (p + 1) else p) = p
    rw [if_neg h]
theorem hrunN_ge {c : Nat → Bool} {len : Nat} : ∀ n p : Nat, p ≤ hrunN c len n p := by
  intro n
  induction n with
  | zero => intro p; exact Nat.le_refl p
  | succ n ih =>
    intro p
    show p ≤ (if p < len ∧ c p = true then hrunN c len n (p + 1) else p)
    by_cases h : p < len ∧ c p = true
    · rw [if_pos h]
      exact Nat.le_trans (Nat.le_succ p) (ih (p + 1))
    · rw [if_neg h]
      exact Nat.le_refl p
theorem hrun_ge {c : Nat → Bool} {len p : Nat} : p ≤ hrun c len p := hrunN_ge _ _
theorem hrunN_le {c : Nat → Bool} {len : Nat} : ∀ n p : Nat, p + n ≤ len → hrunN c len n p ≤ len := by
  intro n
  induction n with
  | zero => intro p h; exact h
  | succ n ih =>
    intro p h
    show (if p < len ∧ c p = true then hrunN c len n (p + 1) else p) ≤ len
    by_cases h1 : p < len ∧ c p = true
    · rw [if_pos h1]
      exact ih (p + 1) (by omega)
    · rw [if_neg h1]
      omega
theorem hrun_le {c : Nat → Bool} {len p : Nat} (h : p ≤ len) : hrun c len p ≤ len := hrunN_le _ _ (by omega)
theorem hsin_tt {v lo hi : Int32} (h1 : ¬ v < lo) (h2 : ¬ hi < v) : hsin v lo hi = true := by
  simp [hsin, Int32.not_lt.mp h1, Int32.not_lt.mp h2]
theorem hsin_ff1 {v lo hi : Int32} (h : v < lo) : hsin v lo hi = false := by
  simp [hsin, Int32.not_le.mpr h]
theorem hsin_ff2 {v lo hi : Int32} (h : hi < v) : hsin v lo hi = false := by
  simp [hsin, Int32.not_le.mpr h]
/-- what kind a byte is: a letter, a digit, the MARK, none -/
def hks (v : Int32) : Int32 := if hsin v 97 122 = true then 1 else if hsin v 48 57 = true then 2 else if v = 59 then 3 else 4
theorem hks_1 {v : Int32} (h : hsin v 97 122 = true) : hks v = 1 := by rw [hks, if_pos h]
theorem hks_2 {v : Int32} (h0 : hsin v 97 122 = false) (h : hsin v 48 57 = true) : hks v = 2 := by rw [hks, if_neg (by rw [h0]; decide), if_pos h]
theorem hks_3 {v : Int32} (h0 : hsin v 97 122 = false) (h1 : hsin v 48 57 = false) (h : v = 59) : hks v = 3 := by rw [hks, if_neg (by rw [h0]; decide), if_neg (by rw [h1]; decide), if_pos h]
theorem hks_4 {v : Int32} (h0 : hsin v 97 122 = false) (h1 : hsin v 48 57 = false) (h : ¬ v = 59) : hks v = 4 := by rw [hks, if_neg (by rw [h0]; decide), if_neg (by rw [h1]; decide), if_neg h]
def hsp (f : Nat → Int32) : Nat → Bool := fun q => decide (f q = 32)
def hsk (f : Nat → Int32) (K : Int32) : Nat → Bool := fun q => decide (hks (f q) = K)
def hsL (kd : Int32) : Bool := decide (kd = 1 ∨ kd = 2)
/-- a TOKEN that starts at st: where it ends, its kind, its value -/
def htB (f : Nat → Int32) (len st : Nat) : Nat := if st < len then (if hsL (hks (f st)) = true then hrun (hsk f (hks (f st))) len st else st + 1) else st
def htK (f : Nat → Int32) (len st : Nat) : Int32 := if st < len then (if hks (f st) = 2 ∧ 2 < htB f len st - st then 4 else hks (f st)) else 0
def hnv (f : Nat → Int32) (st : Nat) : Nat → Int32
  | 0 => 0
  | k + 1 => hnv f st k * 10 + f (st + k) - 48
theorem hnv_s {f : Nat → Int32} {st i : Nat} (h : st ≤ i) : hnv f st (i + 1 - st) = hnv f st (i - st) * 10 + f i - 48 := by
  rw [show i + 1 - st = (i - st) + 1 by omega]
  show hnv f st (i - st) * 10 + f (st + (i - st)) - 48 = _
  rw [show st + (i - st) = i by omega]
def htV (f : Nat → Int32) (len st : Nat) : Int32 := if htK f len st = 2 then hnv f st (htB f len st - st) else 0
def htS (f : Nat → Int32) (len p : Nat) : Nat := hrun (hsp f) len p
/-- the TOKEN behind p: kind, start, behind, value -/
def htok (f : Nat → Int32) (len p : Nat) : Int32 × Nat × Nat × Int32 := (htK f len (htS f len p), htS f len p, htB f len (htS f len p), htV f len (htS f len p))
theorem htB_end {f : Nat → Int32} {len st : Nat} (h : ¬ st < len) : htB f len st = st := by rw [htB, if_neg h]
theorem htB_one {f : Nat → Int32} {len st : Nat} (h : st < len) (h1 : hsL (hks (f st)) = false) : htB f len st = st + 1 := by rw [htB, if_pos h, if_neg (by rw [h1]; decide)]
theorem htB_run {f : Nat → Int32} {len st b : Nat} (h : st < len) (h1 : hsL (hks (f st)) = true) (e : hrun (hsk f (hks (f st))) len st = b) : htB f len st = b := by rw [htB, if_pos h, if_pos h1, e]
theorem htK_end {f : Nat → Int32} {len st : Nat} (h : ¬ st < len) : htK f len st = 0 := by rw [htK, if_neg h]
theorem htK_in {f : Nat → Int32} {len st : Nat} (h : st < len) (h1 : ¬ (hks (f st) = 2 ∧ 2 < htB f len st - st)) : htK f len st = hks (f st) := by rw [htK, if_pos h, if_neg h1]
theorem htK_long {f : Nat → Int32} {len st : Nat} (h : st < len) (h1 : hks (f st) = 2 ∧ 2 < htB f len st - st) : htK f len st = 4 := by rw [htK, if_pos h, if_pos h1]
theorem htV_no {f : Nat → Int32} {len st : Nat} (h : ¬ htK f len st = 2) : htV f len st = 0 := by rw [htV, if_neg h]
theorem htV_yes {f : Nat → Int32} {len st : Nat} (h : htK f len st = 2) : htV f len st = hnv f st (htB f len st - st) := by rw [htV, if_pos h]
theorem htB_ge {f : Nat → Int32} {len st : Nat} : st ≤ htB f len st := by
  unfold htB
  by_cases h : st < len
  · rw [if_pos h]
    by_cases h1 : hsL (hks (f st)) = true
    · rw [if_pos h1]; exact hrun_ge
    · rw [if_neg h1]; exact Nat.le_succ _
  · rw [if_neg h]; exact Nat.le_refl _
theorem htB_le {f : Nat → Int32} {len st : Nat} (h0 : st ≤ len) : htB f len st ≤ len := by
  unfold htB
  by_cases h : st < len
  · rw [if_pos h]
    by_cases h1 : hsL (hks (f st)) = true
    · rw [if_pos h1]; exact hrun_le h0
    · rw [if_neg h1]; omega
  · rw [if_neg h]; exact h0
/-- a FAULT is kept if it is the first; the TOKEN is blamed if it isn't of the kind that is due -/
def cBl (fm pl fo : Int32) (st : Nat) : Int32 × Int32 := if fm = 0 then (fo, nI st) else (fm, pl)
def cBF (fm pl kd due : Int32) (st : Nat) : Int32 × Int32 := if kd = 4 then cBl fm pl 1 st else if kd = due then (fm, pl) else cBl fm pl 2 st
/-- a NUMBER of lo .. hi, not un, is taken: the value, FAULT and place, the TOKEN behind it -/
def cTN (f : Nat → Int32) (len : Nat) (fm pl kd : Int32) (st be : Nat) (va : Int32) (lo hi : Nat) (un : Int32) : Int32 × (Int32 × Int32) × (Int32 × Nat × Nat × Int32) :=
  if ((if hsin va (nI lo) (nI hi) = true ∧ ¬ va = un then cBF fm pl kd 2 st else cBl (cBF fm pl kd 2 st).1 (cBF fm pl kd 2 st).2 3 st)).1 = 0 then (va, (if hsin va (nI lo) (nI hi) = true ∧ ¬ va = un then cBF fm pl kd 2 st else cBl (cBF fm pl kd 2 st).1 (cBF fm pl kd 2 st).2 3 st), htok f len be)
  else (nI lo, (if hsin va (nI lo) (nI hi) = true ∧ ¬ va = un then cBF fm pl kd 2 st else cBl (cBF fm pl kd 2 st).1 (cBF fm pl kd 2 st).2 3 st), (kd, st, be, va))
def cTM (f : Nat → Int32) (len : Nat) (fm pl kd : Int32) (st be : Nat) (va : Int32) : (Int32 × Int32) × (Int32 × Nat × Nat × Int32) :=
  if (cBF fm pl kd 3 st).1 = 0 then (cBF fm pl kd 3 st, htok f len be) else (cBF fm pl kd 3 st, (kd, st, be, va))
/-- CELLS: n more may be taken, c are there -/
def cCl (f : Nat → Int32) (len : Nat) : Nat → Nat → (Nat → Int32) → (Int32 × Int32) → (Int32 × Nat × Nat × Int32) → Nat × (Nat → Int32) × (Int32 × Int32) × (Int32 × Nat × Nat × Int32)
  | 0, c, w, b, t => (c, w, b, t)
  | n + 1, c, w, b, t => if b.1 = 0 ∧ (c < 2 ∨ t.1 = 2) then cCl f len n (c + 1) (upd w c (cTN f len b.1 b.2 t.1 t.2.1 t.2.2.1 t.2.2.2 0 9 (-4)).1) (cTN f len b.1 b.2 t.1 t.2.1 t.2.2.1 t.2.2.2 0 9 (-4)).2.1 (cTN f len b.1 b.2 t.1 t.2.1 t.2.2.1 t.2.2.2 0 9 (-4)).2.2 else (c, w, b, t)
/-- what is behind the CELLS: no NUMBER more -/
def cCE (b : Int32 × Int32) (t : Int32 × Nat × Nat × Int32) : Int32 × Int32 := if t.1 = 2 then cBl b.1 b.2 (if t.2.2.2 ≤ 9 then 5 else 3) t.2.1 else b
/-- is the NAME to be taken: FAULT, place, what was told once -/
def cCN (fm pl to kd : Int32) (st : Nat) (n1 n3 : Nat) (ln : Int32) : Int32 × Int32 × Int32 :=
  if ln = -4 then ((cBl (cBF fm pl kd 1 st).1 (cBF fm pl kd 1 st).2 2 st).1, (cBl (cBF fm pl kd 1 st).1 (cBF fm pl kd 1 st).2 2 st).2, to)
  else if ln = 8 then (if n3 < 8 then (fm, pl, to) else ((cBl fm pl 5 st).1, (cBl fm pl 5 st).2, to))
  else if ln ≤ 3 then (if n1 < 4 then (fm, pl, to) else ((cBl fm pl 5 st).1, (cBl fm pl 5 st).2, to))
  else if to >>> (ln &&& 31) &&& 1 = 1 then ((cBl fm pl 4 st).1, (cBl fm pl 4 st).2, to)
  else (fm, pl, to ||| 1 <<< (ln &&& 31))
/-- FAULT and place behind the look at a NUMBER -/
def cLk (fm pl kd : Int32) (st : Nat) (va : Int32) (lo hi : Nat) (un : Int32) : Int32 × Int32 := if hsin va (nI lo) (nI hi) = true ∧ ¬ va = un then cBF fm pl kd 2 st else cBl (cBF fm pl kd 2 st).1 (cBF fm pl kd 2 st).2 3 st
theorem cTN_yes {f : Nat → Int32} {len : Nat} {fm pl kd : Int32} {st be : Nat} {va : Int32} {lo hi : Nat} {un : Int32} (h : (cLk fm pl kd st va lo hi un).1 = 0) : cTN f len fm pl kd st be va lo hi un = (va, cLk fm pl kd st va lo hi un, htok f len be) := by
  unfold cTN
  exact if_pos h
theorem cTN_no {f : Nat → Int32} {len : Nat} {fm pl kd : Int32} {st be : Nat} {va : Int32} {lo hi : Nat} {un : Int32} (h : ¬ (cLk fm pl kd st va lo hi un).1 = 0) : cTN f len fm pl kd st be va lo hi un = (nI lo, cLk fm pl kd st va lo hi un, (kd, st, be, va)) := by
  unfold cTN
  exact if_neg h

theorem htok_of {f : Nat → Int32} {len p s b : Nat} {kd va : Int32} (hs : htS f len p = s) (hk : htK f len s = kd) (hb : htB f len s = b) (hv : htV f len s = va) : (kd, s, b, va) = htok f len p := by
  subst hs hk hb hv
  rfl
theorem htK_num {f : Nat → Int32} {len st b : Nat} {kd : Int32} (h : st < len) (h2 : hks (f st) = 2) (hb : htB f len st = b) (hkd : kd = if 2 < b - st then 4 else hks (f st)) : htK f len st = kd := by
  subst hb
  rw [hkd, htK, if_pos h]
  by_cases h9 : 2 < htB f len st - st
  · rw [if_pos h9, if_pos ⟨h2, h9⟩]
  · rw [if_neg h9, if_neg (fun z => h9 z.2)]
theorem htV_num {f : Nat → Int32} {len st b : Nat} {va : Int32} (h : st < len) (h2 : hks (f st) = 2) (hb : htB f len st = b) (hva : va = if 2 < b - st then 0 else hnv f st (b - st)) : htV f len st = va := by
  subst hb
  by_cases h9 : 2 < htB f len st - st
  · rw [hva, if_pos h9, htV_no (by rw [htK_long h ⟨h2, h9⟩]; decide)]
  · rw [hva, if_neg h9, htV_yes ((htK_in h (fun z => h9 z.2)).trans h2)]
theorem cBl_ne {fm pl fo : Int32} {st : Nat} (h : ¬ fo = 0) : ¬ (cBl fm pl fo st).1 = 0 := by
  unfold cBl
  by_cases e : fm = 0
  · rw [if_pos e]; exact h
  · rw [if_neg e]; exact e
theorem cBF_0 {fm pl kd due : Int32} {st : Nat} (h : (cBF fm pl kd due st).1 = 0) : fm = 0 ∧ ¬ kd = 4 ∧ kd = due := by
  unfold cBF at h
  by_cases e : kd = 4
  · rw [if_pos e] at h
    exact absurd h (cBl_ne (by decide))
  · rw [if_neg e] at h
    by_cases e2 : kd = due
    · rw [if_pos e2] at h
      exact ⟨h, e, e2⟩
    · rw [if_neg e2] at h
      exact absurd h (cBl_ne (by decide))
