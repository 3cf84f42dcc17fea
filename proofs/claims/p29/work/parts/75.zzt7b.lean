theorem A_gI_pos {a b : Int64} (hb : 0 < b.toInt) : 0 < (A_gI a b).toInt := by
  have hl := Int64.toInt_lt b
  have hp : 0 < b.toNatClampNeg := by show 0 < b.toInt.toNat; omega
  have h1 : 0 < Nat.gcd b.toNatClampNeg a.toNatClampNeg := Nat.gcd_pos_of_pos_left _ hp
  have h2 : Nat.gcd b.toNatClampNeg a.toNatClampNeg ≤ b.toNatClampNeg := Nat.gcd_le_left _ hp
  have h3 : b.toNatClampNeg = b.toInt.toNat := rfl
  unfold A_gI
  rw [Int64.toInt_ofNat_of_lt (by omega)]
  omega
theorem A_gI_ne {a b : Int64} (hb : 0 < b.toInt) : ¬ A_gI a b = 0 := by
  intro e
  have h := A_gI_pos (a := a) hb
  rw [e] at h
  exact absurd h (by decide)
def A_lo (a b : Int64) (w : Int32) : Int64 := if w = 0 then a / A_gI a b else b / A_gI a b
theorem A_eu_st {a b co re : Int64} {i : Nat} (h1 : co = (A_eu a b i).1) (h2 : re = (A_eu a b i).2) (h3 : ∀ j, j < i → ¬ (A_eu a b j).2 = 0) (h4 : ¬ re = 0) : re = (A_eu a b (i + 1)).1 ∧ co - co / re * re = (A_eu a b (i + 1)).2 ∧ ∀ j, j < i + 1 → ¬ (A_eu a b j).2 = 0 := by
  refine ⟨h2, ?_, fun j hj => ?_⟩
  · rw [h1, h2]
    rfl
  · by_cases e : j = i
    · rw [e, ← h2]; exact h4
    · exact h3 j (by omega)
theorem A_eu_x {a b co re : Int64} {i : Nat} (ha : 0 ≤ a.toInt) (hb : 0 < b.toInt) (h1 : co = (A_eu a b i).1) (h2 : re = (A_eu a b i).2) (h3 : ∀ j, j < i → ¬ (A_eu a b j).2 = 0) (h4 : re = 0) : co = A_gI a b := by
  rw [h1]
  exact A_eu_g ha (by omega) h3 (by rw [← h2]; exact h4)
-- the class's row of what is told
theorem A_tl_z {v ju : Int32} : ∀ p m : Nat, p < m → A_tl v ju p m = 0 := by
  intro p
  induction p with
  | zero => intro m hm; exact if_neg (by omega)
  | succ p ih =>
    intro m hm
    show (if m = 0 then _ else A_tl v ju p m * (10 - A_sj v ju p).toInt64 + A_tl v ju p (m - 1) * (A_sj v ju p).toInt64) = 0
    rw [if_neg (by omega), ih m (by omega), ih (m - 1) (by omega), Int64.zero_mul, Int64.zero_mul, Int64.add_zero]
theorem A_tl0 {v ju : Int32} {pp : Nat} {t : Nat → Int64} (h : ∀ m, m ≤ pp → t m = A_tl v ju pp m) : ∀ m, m ≤ pp + 1 → vp_updL t (pp + 1) 0 m = A_tl v ju pp m := by
  intro m hm
  by_cases e : m = pp + 1
  · rw [e, pk_uLs]; exact (A_tl_z pp (pp + 1) (by omega)).symm
  · rw [pk_uLn e]; exact h m (by omega)
theorem A_tls {v ju : Int32} {pp nn : Nat} {t : Nat → Int64} (hn : ¬ nn ≤ 0) (h1 : ∀ m, m ≤ nn → t m = A_tl v ju pp m) (h2 : ∀ m, nn < m → m ≤ pp + 1 → t m = A_tl v ju (pp + 1) m) : (∀ m, m ≤ nn - 1 → vp_updL t nn (A_tl v ju pp nn * (10 - A_sj v ju pp).toInt64 + A_tl v ju pp (nn - 1) * (A_sj v ju pp).toInt64) m = A_tl v ju pp m) ∧ ∀ m, nn - 1 < m → m ≤ pp + 1 → vp_updL t nn (A_tl v ju pp nn * (10 - A_sj v ju pp).toInt64 + A_tl v ju pp (nn - 1) * (A_sj v ju pp).toInt64) m = A_tl v ju (pp + 1) m := by
  refine ⟨fun m hm => ?_, fun m ha hb => ?_⟩
  · rw [pk_uLn (by omega)]; exact h1 m (by omega)
  · by_cases e : m = nn
    · rw [e, pk_uLs]
      show _ = (if nn = 0 then _ else A_tl v ju pp nn * (10 - A_sj v ju pp).toInt64 + A_tl v ju pp (nn - 1) * (A_sj v ju pp).toInt64)
      rw [if_neg (by omega)]
    · rw [pk_uLn e]; exact h2 m (by omega) hb
theorem A_tle {v ju : Int32} {pp : Nat} {t : Nat → Int64} (h : ∀ m, 0 < m → m ≤ pp + 1 → t m = A_tl v ju (pp + 1) m) : ∀ m, m ≤ pp + 1 → vp_updL t 0 (A_tl v ju pp 0 * (10 - A_sj v ju pp).toInt64) m = A_tl v ju (pp + 1) m := by
  intro m hm
  by_cases e : m = 0
  · rw [e, pk_uLs]; rfl
  · rw [pk_uLn e]; exact h m (by omega) hm
theorem A_tp_s {T : Nat → Int64} {lo k : Nat} (h : lo ≤ k) : A_tp T lo (k + 1 - lo) = A_tp T lo (k - lo) + T k := by
  rw [show k + 1 - lo = (k - lo) + 1 by omega, A_tp, show lo + (k - lo) = k by omega]
-- both sides, over all that may be
set_option maxRecDepth 20000 in
theorem cou_l : ∀ n, n < 5 → ∀ v, v < 11 → ∀ x, x < 2 ^ n → A_jS (nI v) (nI x) n (2 ^ n) = A_tp (A_tl (nI v) (nI x) n) (n / 2 + 1) (n - n / 2) := by decide +kernel
set_option maxRecDepth 20000 in
theorem cou_t : ∀ n, n < 5 → ∀ v, v < 11 → ∀ x, x < 2 ^ n → (0 ≤ (A_tp (A_tl (nI v) (nI x) n) (n / 2 + 1) (n - n / 2)).toInt ∧ (A_tp (A_tl (nI v) (nI x) n) (n / 2 + 1) (n - n / 2)).toInt.natAbs < 2 ^ 40) := by decide +kernel
set_option maxRecDepth 20000 in
theorem cou_q : ∀ n, n < 5 → ∀ v, v < 11 → ∀ x, x < 2 ^ n → (0 ≤ (A_tq (nI v) (nI x) n).toInt ∧ (A_tq (nI v) (nI x) n).toInt.natAbs < 2 ^ 40) := by decide +kernel
theorem cou_b : ∀ n, n < 5 → (A_b10 n = (hspw 10 n).toInt64 ∧ 0 < (hspw 10 n).toInt64.toInt) := by decide +kernel
set_option maxRecDepth 20000 in
theorem cou_s : ∀ n, n < 5 → ∀ v, v < 11 → ∀ x, x < 2 ^ n → 0 ≤ (A_tS (nI v) (nI x) n (2 ^ n)).toInt := by decide +kernel
set_option maxRecDepth 20000 in
theorem cou_d : ∀ n, n < 5 → ∀ v, v < 11 → ∀ x, x < 2 ^ n → (A_tq (nI v) (nI x) n / A_gI (A_tq (nI v) (nI x) n) 10 = A_tS (nI v) (nI x) n (2 ^ n) / A_gI (A_tS (nI v) (nI x) n (2 ^ n)) (hspw 10 n).toInt64 ∧ 10 / A_gI (A_tq (nI v) (nI x) n) 10 = (hspw 10 n).toInt64 / A_gI (A_tS (nI v) (nI x) n (2 ^ n)) (hspw 10 n).toInt64) := by decide +kernel
def A_luC (N : Nat → Nat) (J : Nat → Int32) (F : Nat → Nat → Int32) (v k what : Int32) : Int64 := if (hsin v 0 10 && hslt1 k (N 0) && hsin what 0 1) = true then A_lo (A_tp (A_tl v (A_jt (A_vfc N J F k) (N 1)) (N 1)) (N 1 / 2 + 1) (N 1 - N 1 / 2)) (A_b10 (N 1)) what else -1
def A_meC (N : Nat → Nat) (J : Nat → Int32) (F : Nat → Nat → Int32) (v k what : Int32) : Int64 := if (hsin v 0 10 && hslt1 k (N 0) && hsin what 0 1) = true then A_lo (A_tq v (A_jt (A_vfc N J F k) (N 1)) (N 1)) 10 what else -1
def A_luM (c pe : Nat) (g : Nat → Int32) (v k what : Int32) : Int64 := if (hsin v 0 10 && hslt1 k c && hsin what 0 1) = true then A_lo (A_jS v (A_jt (A_vfm c g k) pe) pe (2 ^ pe)) (hspw 10 pe).toInt64 what else -1
def A_meM (c pe : Nat) (g : Nat → Int32) (v k what : Int32) : Int64 := if (hsin v 0 10 && hslt1 k c && hsin what 0 1) = true then A_lo (A_tS v (A_jt (A_vfm c g k) pe) pe (2 ^ pe)) (hspw 10 pe).toInt64 what else -1
theorem R_cou {N : Nat → Nat} {J : Nat → Int32} {F : Nat → Nat → Int32} {g : Nat → Int32} {pe hm : Nat} {v k what : Int32} (hR : rT N J F g pe hm) (hK : thK N J F) (e : (hsin v 0 10 && hslt1 k (N 0) && hsin what 0 1) = true) : ∃ vv x : Nat, vv < 11 ∧ x < 2 ^ N 1 ∧ v = nI vv ∧ A_jt (A_vfc N J F k) (N 1) = nI x ∧ A_jt (A_vfm (N 0) g k) (N 1) = nI x := by
  have I0 := hK.1.1
  have I1 := hK.1.2.1
  obtain ⟨vv, -, hv, ev⟩ := hs_rng (lo := 0) (hi := 10) (by decide) (by decide) (hs_and1 (hs_and1 e))
  obtain ⟨kk, -, hk, ek⟩ := hslt1_ex9 (hs_and2 (hs_and1 e))
  obtain ⟨x, hx, ex⟩ := A_jtb (v := A_vfc N J F k) (N 1) (by omega)
  refine ⟨vv, x, by omega, hx, ev, ex, ?_⟩
  rw [← ex, ek]
  exact (A_jt_congr (N 1) (R_vfcm hR hK (by omega))).symm
theorem R_luck {N : Nat → Nat} {J : Nat → Int32} {F : Nat → Nat → Int32} {g : Nat → Int32} {pe hm : Nat} {v k what : Int32} (hR : rT N J F g pe hm) (hK : thK N J F) : A_luC N J F v k what = A_luM (N 0) pe g v k what := by
  have I1 := hK.1.2.1
  have hp := hR.2.1.1
  subst hp
  unfold A_luC A_luM
  by_cases e : (hsin v 0 10 && hslt1 k (N 0) && hsin what 0 1) = true
  · rw [if_pos e, if_pos e]
    obtain ⟨vv, x, hv, hx, ev, e1, e2⟩ := R_cou hR hK e
    rw [ev, e1, e2, cou_l (N 1) (by omega) vv hv x hx, (cou_b (N 1) (by omega)).1]
  · rw [if_neg e, if_neg e]
theorem R_mean {N : Nat → Nat} {J : Nat → Int32} {F : Nat → Nat → Int32} {g : Nat → Int32} {pe hm : Nat} {v k what : Int32} (hR : rT N J F g pe hm) (hK : thK N J F) : A_meC N J F v k what = A_meM (N 0) pe g v k what := by
  have I1 := hK.1.2.1
  have hp := hR.2.1.1
  subst hp
  unfold A_meC A_meM
  by_cases e : (hsin v 0 10 && hslt1 k (N 0) && hsin what 0 1) = true
  · rw [if_pos e, if_pos e]
    obtain ⟨vv, x, hv, hx, ev, e1, e2⟩ := R_cou hR hK e
    have d := cou_d (N 1) (by omega) vv hv x hx
    rw [ev, e1, e2]
    unfold A_lo
    rw [d.1, d.2]
  · rw [if_neg e, if_neg e]
