-- THE ANSWERS of the first call on a fresh object
def A_feed (c : Int32) : Int32 := if hsin c 0 127 then 1 else -1
def A_end (n : Int32) : Int32 := if hsin n 0 0 then 0 else -1
def A_text : Int32 := 0
def A_fault : Int32 := 0
def A_rule (what : Int32) : Int32 := if what = 0 then 2 else if what = 1 then 0 else if what = 2 then 0 else if what = 3 then 0 else if what = 4 then 0 else if what = 5 then 2 else if what = 6 then 0 else if what = 7 then 2 else -1
def A_cell (i : Int32) : Int32 := if hsin i 0 1 then 1 else -1
def A_person (_ : Int32) : Int32 := -1
def A_pair (_ : Int32) : Int32 := -1
def A_weigh (i v : Int32) : Int32 := if hsin i 0 1 && hsin v 0 9 then 1 else -1
def A_split (i : Int32) : Int32 := if hsin i 0 1 then 3 else -1
def A_join (i : Int32) : Int32 := if hsin i 0 1 then (if i = 0 then -2 else -1) else -1
def A_teach (_ _ : Int32) : Int32 := -1
def A_set (what v : Int32) : Int32 := if what = 2 then (if hsin v 0 9 then 0 else -1) else if what = 3 then (if hsin v 0 99 then 0 else -1) else -1
def A_appeal : Int32 := -2
def A_lighter (a b : Int32) : Int32 := if hsin a 0 1 && hsin b 0 1 && !decide (a = b) then 1 else -1
def A_worth (_ _ : Int32) : Int32 := -1
def A_finds (_ _ : Int32) : Int32 := -1
def A_just (i : Int32) : Int32 := if hsin i 1 1 then 0 else -1
def A_middle (what : Int32) : Int32 := if hsin what 0 1 then (if what = 0 then 1 else 0) else -1
def A_honest (_ : Int32) : Int32 := -1
def A_chosen (_ _ _ : Int32) : Int32 := -1
def A_sly (_ _ _ : Int32) : Int32 := -1
def A_halves (a what : Int32) : Int32 := if hsin a 0 0 && hsin what 0 1 then 0 else -1
def A_stop (a what : Int32) : Int32 := if hsin a 0 99 && hsin what 0 1 then 0 else -1
def A_orders (what : Int32) : Int32 := if what = 0 then 2 else if what = 1 then 3 else if what = 2 then 3 else if hsin what 10 11 then (if what = 10 then 0 else 1) else -1
def A_next (what : Int32) : Int32 := if hsin what 0 1 then 1 else -1
def A_luck (v i what : Int32) : Int64 := if hsin v 0 10 && hsin i 1 1 && hsin what 0 1 then (if what = 0 then 0 else 1) else -1
def A_see (_ _ _ : Int32) : Int32 := -1
def A_forget (n : Int32) : Int32 := if hsin n 0 0 then 0 else -1
def A_fits (i : Int32) : Int32 := if hsin i 0 1 then 1023 else -1
def A_kinds (_ : Int32) : Int32 := -1
def A_keep (i : Int32) : Int32 := if hsin i 0 1 then 0 else -1
def A_back (i : Int32) : Int32 := if hsin i 0 1 then -2 else -1
def A_sheet (i v n : Int32) : Int32 := if hsin i 0 3 && hsin v 0 2 && decide (n ≤ 40) then (if 0 ≤ n then 1 else -14) else -1
def A_lay (i _ _ : Int32) : Int32 := if hsin i 0 3 then -11 else -1
def A_read (i v _ n : Int32) : Int32 := if hsin i 0 3 && hsin v 0 2 && hsin n 0 20 then 0 else -1
def A_torn : Int32 := 0
def A_count (what : Int32) : Int32 := if what = 0 then 0 else if what = 1 then 0 else if what = 2 then 0 else if what = 3 then -4 else -1
-- more
theorem hs_o1011 {v : Int32} (h : hsin (v - 10) 0 1 = true) : v = 10 ∨ v = 11 := by
  have e : v = (v - 10) + 10 := by rw [Int32.sub_add_cancel]
  rcases hs_v01 h with h1 | h1
  · exact Or.inl (by rw [e, h1]; rfl)
  · exact Or.inr (by rw [e, h1]; rfl)
theorem hs_no2 {v lo hi : Int32} (h : hsin v lo hi = false) {w : Int32} (hw : hsin w lo hi = true) : ¬ v = w := fun e => by
  rw [e, hw] at h
  cases h
theorem hsA_join_bad {i : Int32} (h : hsin i 0 0 = false) : (-1 : Int32) = A_join i := by
  have h0 : ¬ i = 0 := hs_no2 h rfl
  unfold A_join
  rw [if_neg h0]
  split <;> rfl
theorem hsA_set_bad {what v : Int32} (h : hsin what 2 3 = false) : (-1 : Int32) = A_set what v := by
  have h0 : ¬ what = 2 := hs_no2 h rfl
  have h1 : ¬ what = 3 := hs_no2 h rfl
  simp [A_set, h0, h1]
theorem hsA_orders_bad {what : Int32} (h : hsin what 0 2 = false) (h2 : hsin (what - 10) 0 1 = false) : (-1 : Int32) = A_orders what := by
  have h0 : ¬ what = 0 := hs_no2 h rfl
  have h1 : ¬ what = 1 := hs_no2 h rfl
  have h3 : ¬ what = 2 := hs_no2 h rfl
  have h4 : hsin what 10 11 = false := by
    cases hc : hsin what 10 11 with
    | false => rfl
    | true =>
      rcases hs_v1011 hc with rfl | rfl
      · exact h2
      · exact h2
  simp [A_orders, h0, h1, h3, h4]
theorem hs_32 : ¬ (3 : Int32) = 2 := by decide
-- DRIFT: one step by the seed, and n of them
def dr_a (a : Int32) : Int32 := a * 1103515245 + 12345
def dr_m (a : Int32) : Nat := a.toBitVec.toNat / 65536 % 32768
theorem dr_lt (a : Int32) : dr_m a < 32768 := Nat.mod_lt _ (by decide)
theorem dr_um (a : Int32) : ((a.toUInt32 >>> ((16 : Int32).toUInt32 &&& Int32.toUInt32 31)).toInt32) &&& 32767 = nI (dr_m a) := by
  rw [pk_and _ 15 (by decide), pk_ushr a 16 16 (by decide)]
  rfl
theorem dr_sm (a : Int32) : (a >>> ((16 : Int32) &&& 31)) &&& 32767 = nI (dr_m a) := by
  rw [pk_and _ 15 (by decide)]
  have h := pk_shr a ((16 : Int32) &&& 31) 16 (by decide)
  rw [Int.shiftRight_eq_div_pow] at h
  have e1 : a.toInt = if 2 * a.toBitVec.toNat < 2 ^ 32 then (a.toBitVec.toNat : Int) else (a.toBitVec.toNat : Int) - (2 ^ 32 : Nat) := BitVec.toInt_eq_toNat_cond a.toBitVec
  have e2 : (a >>> ((16 : Int32) &&& 31)).toInt = if 2 * (a >>> ((16 : Int32) &&& 31)).toBitVec.toNat < 2 ^ 32 then ((a >>> ((16 : Int32) &&& 31)).toBitVec.toNat : Int) else ((a >>> ((16 : Int32) &&& 31)).toBitVec.toNat : Int) - (2 ^ 32 : Nat) := BitVec.toInt_eq_toNat_cond _
  have b1 : a.toBitVec.toNat < 2 ^ 32 := a.toBitVec.isLt
  have b2 : (a >>> ((16 : Int32) &&& 31)).toBitVec.toNat < 2 ^ 32 := (a >>> ((16 : Int32) &&& 31)).toBitVec.isLt
  congr 1
  unfold dr_m
  generalize (a >>> ((16 : Int32) &&& 31)).toBitVec.toNat = y at *
  generalize (a >>> ((16 : Int32) &&& 31)).toInt = yi at *
  generalize a.toBitVec.toNat = x at *
  generalize a.toInt = xi at *
  split at e1 <;> split at e2 <;> omega
def hsd (seed : Int32) : Nat → Int32 × (Nat → Int32)
  | 0 => (seed, hsw)
  | i + 1 => (dr_a (hsd seed i).1, upd (hsd seed i).2 (dr_m (dr_a (hsd seed i).1) % 2) (nI (dr_m (dr_a (hsd seed i).1) / 8 % 10)))
/-- the model's row of two weights -/
def hsm (w : Nat → Int32) : Nat → Int32 := upd (upd hst 1 (w 0)) 2 (w 1)
theorem hsm_0 (seed : Int32) : hsm (hsd seed 0).2 = hst := by
  funext j
  by_cases h1 : j = 1
  · subst h1; rfl
  · by_cases h2 : j = 2
    · subst h2; rfl
    · simp [hsm, upd, h1, h2]
theorem hsm_s (w : Nat → Int32) (b : Nat) (v : Int32) (hb : b < 2) : upd (hsm w) (1 + b) v = hsm (upd w b v) := by
  funext j
  rcases (show b = 0 ∨ b = 1 by omega) with rfl | rfl
  · by_cases h1 : j = 1
    · subst h1; simp [hsm, upd]
    · by_cases h2 : j = 2
      · subst h2; simp [hsm, upd]
      · simp [hsm, upd, h1, h2]
  · by_cases h1 : j = 1
    · subst h1; simp [hsm, upd]
    · by_cases h2 : j = 2
      · subst h2; simp [hsm, upd]
      · simp [hsm, upd, h1, h2]
theorem hs_n60 {n : Int32} (h : hsin n 1 60 = true) : ∃ N : Nat, N ≤ 60 ∧ n = nI N := by
  have h1 := hsin_toInt h
  have a : (1 : Int32).toInt = 1 := by decide
  have b : (60 : Int32).toInt = 60 := by decide
  refine nI_of2 (M := 60) (n := 60) b (fun hc => ?_) (Int32.le_iff_toInt_le.mpr (by omega))
  have hc' := Int32.lt_iff_toInt_lt.mp hc
  have z : (0 : Int32).toInt = 0 := by decide
  omega
def A_drift (seed n what : Int32) : Int32 := if hsin n 1 60 && hsin what 0 1 then (if what = 0 then 0 else (hsd seed n.toNatClampNeg).2 0 + (hsd seed n.toNatClampNeg).2 1) else -1
theorem hsA_drift0 {seed : Int32} {N : Nat} (h : hsin (nI N) 1 60 = true) : (0 : Int32) = A_drift seed (nI N) 0 := by
  unfold A_drift
  rw [h]
  rfl
theorem hsA_drift1 {seed : Int32} {N : Nat} (hN : N ≤ 60) (h : hsin (nI N) 1 60 = true) : (hsd seed N).2 0 + (hsd seed N).2 1 = A_drift seed (nI N) 1 := by
  unfold A_drift
  rw [h, nI_clamp (by omega)]
  rfl
theorem hs_cpyself (f : Nat → Int32) (n : Nat) : va_cpy f f 0 0 n = f := by
  funext j
  by_cases h : j < n
  · rw [pk_cpy_in (Nat.zero_le j) (by omega)]
    simp
  · rw [pk_cpy_out (Or.inr (by omega))]
