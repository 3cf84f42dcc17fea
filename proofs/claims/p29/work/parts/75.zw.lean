-- WORTH, as functions: the class's, the reference's, and that they agree
def A_wv (k w : Int32) (i : Nat) : Int32 := if nI i = 0 then (if k = 0 then w else 2 * w) else w
def A_wc (k w : Int32) (i : Nat) : Int32 := if k = 3 then w / 2 else if k = 2 then (if w - w / 2 * 2 = 1 then A_wv k w i + 1 else A_wv k w i) else A_wv k w i
def A_wm (k w : Int32) (i : Nat) : Int32 := if k = 1 then (if nI i = 0 then 2 * w else w) else if k = 2 then (if nI i = 0 then 2 * w else w) + (w - w / 2 * 2) else if k = 3 then w / 2 else w
theorem A_wcm : ∀ i, i < 8 → ∀ k, k < 4 → ∀ w, w < 10 → A_wc (nI k) (nI w) i = A_wm (nI k) (nI w) i := by decide +kernel
theorem A_wcb : ∀ i, i < 8 → ∀ k, k < 4 → ∀ w, w < 10 → ∃ x, x < 20 ∧ A_wc (nI k) (nI w) i = nI x := by decide +kernel
def A_fc (F : Nat → Nat → Int32) (j : Nat) : Nat → Int32 := fun q => A_wc (F 1 j) (F 0 q) q
def A_fm (g : Nat → Int32) (j : Nat) : Nat → Int32 := fun q => A_wm (g (9 + j)) (g (1 + q)) q
def A_ws (f : Nat → Int32) (s : Int32) : Nat → Int32
  | 0 => 0
  | n + 1 => if s >>> (nI n &&& 31) &&& 1 = 1 then A_ws f s n + f n else A_ws f s n
def A_ld (f : Nat → Int32) (s : Int32) : Nat → Int32
  | 0 => 0
  | n + 1 => if s >>> (nI n &&& 31) &&& 1 = 1 then A_ld f s n + f n else A_ld f s n + -(f n)
def A_ml (f : Nat → Int32) (s : Int32) (n : Nat) : Int32 := A_ws f s n - A_ws f (nI (2 ^ n - 1) &&& (s ^^^ -1)) n
def A_lf (k : Int32) : Int32 := (1 : Int32) <<< (k &&& 31) - 1
def A_sz (v : Int32) : Int32 := if 0 ≤ v then v else -v
def A_vd (m sl : Int32) : Int32 := if sl < (if 0 ≤ m then m else 0 - m) then (if m ≤ 0 then 2 else 1) else 0
def A_vm (m sl : Int32) : Int32 := if sl < A_sz m then (if m ≤ 0 then 2 else 1) else 0
def A_jt (v : Nat → Int32) : Nat → Int32
  | 0 => 0
  | n + 1 => if v n = 0 then A_jt v n ||| (1 : Int32) <<< (nI n &&& 31) else A_jt v n
def A_vfc (N : Nat → Nat) (J : Nat → Int32) (F : Nat → Nat → Int32) (k : Int32) : Nat → Int32 := fun q => A_vd (A_ld (A_fc F q) (A_lf k) (N 0)) (J 0)
def A_vfm (c : Nat) (g : Nat → Int32) (k : Int32) : Nat → Int32 := fun q => A_vm (A_ml (A_fm g q) (A_lf k) c) (g 13)
theorem A_ws_congr {f g : Nat → Int32} {s : Int32} : ∀ n : Nat, (∀ q, q < n → f q = g q) → A_ws f s n = A_ws g s n := by
  intro n
  induction n with
  | zero => intro _; rfl
  | succ n ih =>
    intro h
    rw [A_ws, A_ws, ih (fun q hq => h q (by omega)), h n (by omega)]
theorem A_ld_congr {f g : Nat → Int32} {s : Int32} : ∀ n : Nat, (∀ q, q < n → f q = g q) → A_ld f s n = A_ld g s n := by
  intro n
  induction n with
  | zero => intro _; rfl
  | succ n ih =>
    intro h
    rw [A_ld, A_ld, ih (fun q hq => h q (by omega)), h n (by omega)]
theorem A_ml_congr {f g : Nat → Int32} {s : Int32} (n : Nat) (h : ∀ q, q < n → f q = g q) : A_ml f s n = A_ml g s n := by
  unfold A_ml
  rw [A_ws_congr n h, A_ws_congr n h]
theorem A_jt_congr {v w : Nat → Int32} : ∀ n : Nat, (∀ q, q < n → v q = w q) → A_jt v n = A_jt w n := by
  intro n
  induction n with
  | zero => intro _; rfl
  | succ n ih =>
    intro h
    rw [A_jt, A_jt, ih (fun q hq => h q (by omega)), h n (by omega)]
theorem A_fm_congr {g g2 : Nat → Int32} {j : Nat} (hj : j < 4) (h : ∀ q, q < 44 → g2 q = g q) : ∀ q, q < 8 → A_fm g2 j q = A_fm g j q := by
  intro q hq
  show A_wm (g2 (9 + j)) (g2 (1 + q)) q = A_wm (g (9 + j)) (g (1 + q)) q
  rw [h (9 + j) (by omega), h (1 + q) (by omega)]
theorem A_vfm_congr {c : Nat} {g g2 : Nat → Int32} {k : Int32} (hc : c ≤ 8) (h : ∀ q, q < 44 → g2 q = g q) : ∀ q, q < 4 → A_vfm c g2 k q = A_vfm c g k q := by
  intro q hq
  show A_vm (A_ml (A_fm g2 q) (A_lf k) c) (g2 13) = A_vm (A_ml (A_fm g q) (A_lf k) c) (g 13)
  rw [h 13 (by decide), A_ml_congr c (fun x hx => A_fm_congr hq h x (by omega))]
theorem A_jt0 : ∀ q, q < 4 → ((0 : Int32) <<< (nI q &&& 31)) = 0 := by decide +kernel
theorem A_cpl : ∀ n, n < 9 → ∀ i, i < n → ∀ s, s < 256 → ((nI (2 ^ n - 1) &&& (nI s ^^^ -1)) >>> (nI i &&& 31) &&& 1 = 1 ↔ ¬ nI s >>> (nI i &&& 31) &&& 1 = 1) := by decide +kernel
theorem A_ab1 {a b c : Int32} : a + b - c = a - c + b := by
  rw [Int32.sub_eq_add_neg, Int32.sub_eq_add_neg, Int32.add_assoc, Int32.add_assoc, Int32.add_comm b]
theorem A_ab2 {a b c : Int32} : a - (c + b) = a - c + -b := by
  rw [Int32.sub_eq_add_neg, Int32.sub_eq_add_neg, Int32.neg_add, Int32.sub_eq_add_neg, Int32.add_assoc]
theorem A_ld_ws {f : Nat → Int32} {s t : Int32} : ∀ n : Nat, (∀ i, i < n → (t >>> (nI i &&& 31) &&& 1 = 1 ↔ ¬ s >>> (nI i &&& 31) &&& 1 = 1)) → A_ld f s n = A_ws f s n - A_ws f t n := by
  intro n
  induction n with
  | zero => intro _; show (0 : Int32) = 0 - 0; decide
  | succ n ih =>
    intro h
    have e := ih (fun i hi => h i (by omega))
    by_cases b : s >>> (nI n &&& 31) &&& 1 = 1
    · rw [A_ld, A_ws, A_ws, if_pos b, if_pos b, if_neg (fun z => (h n (by omega)).mp z b), e, A_ab1]
    · rw [A_ld, A_ws, A_ws, if_neg b, if_neg b, if_pos ((h n (by omega)).mpr b), e, A_ab2]
theorem A_ld_ml {f : Nat → Int32} {n s : Nat} (hn : n ≤ 8) (hs : s < 256) : A_ld f (nI s) n = A_ml f (nI s) n := A_ld_ws n (fun i hi => A_cpl n (by omega) i hi s hs)
theorem A_lf_n : ∀ k, k < 9 → A_lf (nI k) = nI (2 ^ k - 1) := by decide +kernel
theorem A_lf_b : ∀ k, k < 9 → 2 ^ k - 1 < 256 := by decide
theorem A_vdm {m sl : Int32} : A_vd m sl = A_vm m sl := by
  unfold A_vd A_vm A_sz
  rw [Int32.zero_sub]
theorem R_fcm {N : Nat → Nat} {J : Nat → Int32} {F : Nat → Nat → Int32} {g : Nat → Int32} {pe hm j : Nat} (hR : rT N J F g pe hm) (hK : thK N J F) (hj : j < N 1) : ∀ q, q < N 0 → A_fc F j q = A_fm g j q := by
  intro q hq
  have I0 := hK.1.1
  obtain ⟨w, hw, ew⟩ := vp_in_of (hK.2.2.2.1.1 q hq) (by decide)
  obtain ⟨k, hk, ek⟩ := vp_in_of (hK.2.2.2.1.2.1 j hj) (by decide)
  show A_wc (F 1 j) (F 0 q) q = A_wm (g (9 + j)) (g (1 + q)) q
  rw [hR.1.2 q hq, hR.2.1.2 j hj, ew, ek]
  exact A_wcm q (by omega) k hk w hw
theorem R_vfcm {N : Nat → Nat} {J : Nat → Int32} {F : Nat → Nat → Int32} {g : Nat → Int32} {pe hm k : Nat} (hR : rT N J F g pe hm) (hK : thK N J F) (hk : k < 9) : ∀ q, q < N 1 → A_vfc N J F (nI k) q = A_vfm (N 0) g (nI k) q := by
  intro q hq
  have I0 := hK.1.1
  show A_vd (A_ld (A_fc F q) (A_lf (nI k)) (N 0)) (J 0) = A_vm (A_ml (A_fm g q) (A_lf (nI k)) (N 0)) (g 13)
  rw [A_vdm, A_lf_n k hk, A_ld_ml I0 (A_lf_b k hk), A_ml_congr (N 0) (R_fcm hR hK hq), hR.2.2.1.1]
def A_woC (N : Nat → Nat) (F : Nat → Nat → Int32) (p s : Int32) : Int32 := if (hslt p (N 1) && hsin s 0 (nI (2 ^ (N 0) - 1))) = true then A_ws (A_fc F p.toNatClampNeg) s (N 0) else -1
def A_woM (c pe : Nat) (g : Nat → Int32) (p s : Int32) : Int32 := if (hslt p pe && hsin s 0 ((1 : Int32) <<< (nI c &&& 31) - 1)) = true then A_ws (A_fm g p.toNatClampNeg) s c else -1
def A_fiC (N : Nat → Nat) (J : Nat → Int32) (F : Nat → Nat → Int32) (p k : Int32) : Int32 := if (hslt p (N 1) && hslt1 k (N 0)) = true then A_vfc N J F k p.toNatClampNeg else -1
def A_fiM (c pe : Nat) (g : Nat → Int32) (p k : Int32) : Int32 := if (hslt p pe && hslt1 k c) = true then A_vfm c g k p.toNatClampNeg else -1
def A_juC (N : Nat → Nat) (J : Nat → Int32) (F : Nat → Nat → Int32) (k : Int32) : Int32 := if hslt1 k (N 0) = true then A_jt (A_vfc N J F k) (N 1) else -1
def A_juM (c pe : Nat) (g : Nat → Int32) (k : Int32) : Int32 := if hslt1 k c = true then A_jt (A_vfm c g k) pe else -1
theorem hslt1_ex9 {v : Int32} {n : Nat} (h : hslt1 v n = true) : ∃ j : Nat, 1 ≤ j ∧ j < n ∧ v = nI j := by
  unfold hslt1 at h
  simp only [Bool.and_eq_true, decide_eq_true_eq] at h
  obtain ⟨j, hj, ej⟩ := hslt_ex (v := v) (n := n) (by unfold hslt; simp only [Bool.and_eq_true, decide_eq_true_eq]; omega)
  refine ⟨j, ?_, hj, ej⟩
  have h1 := h.1
  rw [ej] at h1
  rcases Nat.eq_zero_or_pos j with e | e
  · subst e
    exact absurd h1 (by decide)
  · exact e
theorem R_worth {N : Nat → Nat} {J : Nat → Int32} {F : Nat → Nat → Int32} {g : Nat → Int32} {pe hm : Nat} {p s : Int32} (hR : rT N J F g pe hm) (hK : thK N J F) : A_woC N F p s = A_woM (N 0) pe g p s := by
  have I0 := hK.1.1
  have I1 := hK.1.2.1
  unfold A_woC A_woM
  rw [hR.2.1.1, hs_shl (n := N 0) (by omega), show nI (2 ^ N 0) - 1 = nI (2 ^ N 0 - 1) from pk_sub (b := 1) Nat.one_le_two_pow]
  by_cases e : (hslt p (N 1) && hsin s 0 (nI (2 ^ (N 0) - 1))) = true
  · rw [if_pos e, if_pos e]
    obtain ⟨j, hj, ej⟩ := hslt_ex (hs_and1 e)
    rw [ej, nI_clamp (by omega)]
    exact A_ws_congr _ (R_fcm hR hK hj)
  · rw [if_neg e, if_neg e]
theorem R_finds {N : Nat → Nat} {J : Nat → Int32} {F : Nat → Nat → Int32} {g : Nat → Int32} {pe hm : Nat} {p k : Int32} (hR : rT N J F g pe hm) (hK : thK N J F) : A_fiC N J F p k = A_fiM (N 0) pe g p k := by
  have I0 := hK.1.1
  have I1 := hK.1.2.1
  unfold A_fiC A_fiM
  rw [hR.2.1.1]
  by_cases e : (hslt p (N 1) && hslt1 k (N 0)) = true
  · rw [if_pos e, if_pos e]
    obtain ⟨j, hj, ej⟩ := hslt_ex (hs_and1 e)
    obtain ⟨kk, -, hk, ek⟩ := hslt1_ex9 (hs_and2 e)
    rw [ej, nI_clamp (by omega), ek]
    exact R_vfcm hR hK (by omega) j hj
  · rw [if_neg e, if_neg e]
theorem R_just {N : Nat → Nat} {J : Nat → Int32} {F : Nat → Nat → Int32} {g : Nat → Int32} {pe hm : Nat} {k : Int32} (hR : rT N J F g pe hm) (hK : thK N J F) : A_juC N J F k = A_juM (N 0) pe g k := by
  have I0 := hK.1.1
  unfold A_juC A_juM
  rw [hR.2.1.1]
  by_cases e : hslt1 k (N 0) = true
  · rw [if_pos e, if_pos e]
    obtain ⟨kk, -, hk, ek⟩ := hslt1_ex9 e
    rw [ek]
    exact A_jt_congr _ (R_vfcm hR hK (by omega))
  · rw [if_neg e, if_neg e]
