-- WHICH TWO TO COMPARE NEXT: over all pairs, the one by which fewest are left
def A_nb (L : Nat → Nat → Int32) (a : Nat) (p : Int32 × Int32) : Nat → Int32 × Int32
  | 0 => p
  | d + 1 => if L a (a + 1 + d) < (A_nb L a p d).1 then (L a (a + 1 + d), nI (10 * a + (a + 1 + d))) else A_nb L a p d
def A_na (L : Nat → Nat → Int32) (n : Nat) (p : Int32 × Int32) : Nat → Int32 × Int32
  | 0 => p
  | a + 1 => A_nb L a (A_na L n p a) (n - (a + 1))
theorem A_nb_s {L : Nat → Nat → Int32} {a b : Nat} {p : Int32 × Int32} (h : a + 1 ≤ b) : A_nb L a p (b + 1 - (a + 1)) = if L a b < (A_nb L a p (b - (a + 1))).1 then (L a b, nI (10 * a + b)) else A_nb L a p (b - (a + 1)) := by
  rw [show b + 1 - (a + 1) = b - (a + 1) + 1 by omega, A_nb, show a + 1 + (b - (a + 1)) = b by omega]
theorem A_nb_congr {L M : Nat → Nat → Int32} {a : Nat} {p : Int32 × Int32} : ∀ d : Nat, (∀ b, a < b → b < a + 1 + d → L a b = M a b) → A_nb L a p d = A_nb M a p d := by
  intro d
  induction d with
  | zero => intro _; rfl
  | succ d ih =>
    intro h
    rw [A_nb, A_nb, ih (fun b h1 h2 => h b h1 (by omega)), h (a + 1 + d) (by omega) (by omega)]
theorem A_na_congr {L M : Nat → Nat → Int32} {n : Nat} {p : Int32 × Int32} (h : ∀ a b, a < b → b < n → L a b = M a b) : ∀ k : Nat, k ≤ n → A_na L n p k = A_na M n p k := by
  intro k
  induction k with
  | zero => intro _; rfl
  | succ k ih =>
    intro hk
    rw [A_na, A_na, ih (by omega)]
    exact A_nb_congr _ (fun b h1 h2 => h k b h1 (by omega))
def A_nxR (p : Int32 × Int32) (what : Int32) : Int32 := if what = 0 then p.2 else if p.2 = -4 then p.2 else p.1
def A_nxS (p : Int32 × Int32) (what : Int32) : Int32 := if p.2 = -4 then -4 else if what = 0 then p.2 else p.1
theorem A_nx_eq (p : Int32 × Int32) (what : Int32) : A_nxR p what = A_nxS p what := by
  unfold A_nxR A_nxS
  by_cases h : p.2 = -4
  · rw [if_pos h, if_pos h, h]
    by_cases w : what = 0
    · rw [if_pos w]
    · rw [if_neg w]
  · rw [if_neg h, if_neg h]
def A_nWx (n : Nat) (ah : Nat → Nat) : Int32 := nI (Wm n ah n (2 ^ n - 1))
def A_nLC (n : Nat) (ah : Nat → Nat) (a b : Nat) : Int32 := if nI (Wm n (ahx ah a b) n (2 ^ n - 1)) < nI (Wm n (ahx ah b a) n (2 ^ n - 1)) then nI (Wm n (ahx ah b a) n (2 ^ n - 1)) else nI (Wm n (ahx ah a b) n (2 ^ n - 1))
def A_nLM (om n : Nat) (lt hv : Nat → Nat) (np a b : Nat) : Int32 := if nI (cntB (gaB n lt hv np a b) (n ^ n)) ≤ nI om - nI (cntB (gaB n lt hv np a b) (n ^ n)) then nI om - nI (cntB (gaB n lt hv np a b) (n ^ n)) else nI (cntB (gaB n lt hv np a b) (n ^ n))
def A_nxC (N : Nat → Nat) (F : Nat → Nat → Int32) (what : Int32) : Int32 := if hsin what 0 1 = true then A_nxR (A_na (A_nLC (N 2) (hAh (hLt F) (hHv F) (N 3))) (N 2) (nI (Wm (N 2) (hAh (hLt F) (hHv F) (N 3)) (N 2) (2 ^ N 2 - 1)), -4) (N 2)) what else -1
def A_nxM (n np : Nat) (lt hv : Nat → Nat) (what : Int32) : Int32 := if hsin what 0 1 = true then A_nxS (A_na (A_nLM (cntB (gdB n lt hv np) (n ^ n)) n lt hv np) n (nI (cntB (gdB n lt hv np) (n ^ n)), -4) n) what else -1
theorem cnt_two {n : Nat} {lt hv : Nat → Nat} {np a b : Nat} (h2 : 2 ≤ n) (h5 : n ≤ 5) (ha : a < n) (hb : b < n) (hab : ¬ a = b) : ∀ m : Nat, cntB (gaB n lt hv np a b) m + cntB (gaB n lt hv np b a) m = cntB (gdB n lt hv np) m := by
  intro m
  induction m with
  | zero => rfl
  | succ m ih =>
    rw [cntB, cntB, cntB]
    by_cases g : gdB n lt hv np m = true
    · have w := gd_rw h2 h5 g
      have wa := w.2 a ha
      have wb := w.2 b hb
      have ne : ¬ plcU (hdg n m) a n = plcU (hdg n m) b n := fun e => hab (by rw [← wa.2, ← wb.2, e])
      rw [if_pos g]
      unfold gaB at *
      rw [g, Bool.true_and, Bool.true_and]
      by_cases c : plcU (hdg n m) a n < plcU (hdg n m) b n
      · rw [if_pos (decide_eq_true c), if_neg (by rw [decide_eq_false (by omega)]; decide)]
        omega
      · rw [if_neg (by rw [decide_eq_false c]; decide), if_pos (decide_eq_true (by omega))]
        omega
    · have g2 : ¬ gaB n lt hv np a b m = true := fun z => g (hs_and1 z)
      have g3 : ¬ gaB n lt hv np b a m = true := fun z => g (hs_and1 z)
      rw [if_neg g, if_neg g2, if_neg g3]
      omega
theorem R_next {N : Nat → Nat} {J : Nat → Int32} {F : Nat → Nat → Int32} {g : Nat → Int32} {pe hm : Nat} {what : Int32} (hR : rT N J F g pe hm) (hK : thK N J F) : A_nxC N F what = A_nxM hm (N 3) (hLt F) (hHv F) what := by
  have e2 := hR.2.2.2.1
  subst e2
  have I2 := hK.1.2.2.1
  have hp := hK.2.2.2.2.1
  unfold A_nxC A_nxM
  by_cases e : hsin what 0 1 = true
  · rw [if_pos e, if_pos e, A_nx_eq, cnt_Wm I2.1 I2.2 hp]
    congr 1
    refine A_na_congr (fun a b hab hb => ?_) _ (Nat.le_refl _)
    unfold A_nLC A_nLM
    have c := cnt_two (lt := hLt F) (hv := hHv F) (np := N 3) I2.1 I2.2 (show a < N 2 by omega) hb (show ¬ a = b by omega) (N 2 ^ N 2)
    rw [cnt_Wm I2.1 I2.2 hp, cnt_ab I2.1 I2.2 hp (show a < N 2 by omega) hb, cnt_ab I2.1 I2.2 hp hb (show a < N 2 by omega)] at c
    rw [cnt_ab I2.1 I2.2 hp (show a < N 2 by omega) hb, ← c]
    have b1 := Wm_3125 (n := N 2) (ah := ahx (hAh (hLt F) (hHv F) (N 3)) a b) (S := 2 ^ N 2 - 1) I2.2
    have b2 := Wm_3125 (n := N 2) (ah := ahx (hAh (hLt F) (hHv F) (N 3)) b a) (S := 2 ^ N 2 - 1) I2.2
    generalize Wm (N 2) (ahx (hAh (hLt F) (hHv F) (N 3)) a b) (N 2) (2 ^ N 2 - 1) = x at *
    generalize Wm (N 2) (ahx (hAh (hLt F) (hHv F) (N 3)) b a) (N 2) (2 ^ N 2 - 1) = y at *
    have s : nI (x + y) - nI x = nI y := by rw [pk_sub (by omega), show x + y - x = y by omega]
    rw [s]
    by_cases l : x < y
    · rw [if_pos ((nI_ltI (by omega) (by omega)).mpr l), if_pos ((nI_leI (by omega) (by omega)).mpr (by omega))]
    · rw [if_neg (fun z => l ((nI_ltI (by omega) (by omega)).mp z))]
      by_cases q : x ≤ y
      · rw [if_pos ((nI_leI (by omega) (by omega)).mpr q), show x = y by omega]
      · rw [if_neg (fun z => q ((nI_leI (by omega) (by omega)).mp z))]
  · rw [if_neg e, if_neg e]
