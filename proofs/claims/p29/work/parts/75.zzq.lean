-- OF SEVERAL THE FIRST: the class begins with the first, the reference with none
def A_mxC (m : Nat → Int32) : Nat → Int32 × Int32
  | 0 => (1, m 1)
  | n + 1 => if (A_mxC m n).2 < m (n + 2) then (nI (n + 2), m (n + 2)) else A_mxC m n
def A_mxM (m : Nat → Int32) : Nat → Int32 × Int32
  | 0 => (1, -1)
  | n + 1 => if (A_mxM m n).2 < m (n + 1) then (nI (n + 1), m (n + 1)) else A_mxM m n
def A_mnC (m : Nat → Int32) : Nat → Int32 × Int32
  | 0 => (1, m 1)
  | n + 1 => if m (n + 2) < (A_mnC m n).2 then (nI (n + 2), m (n + 2)) else A_mnC m n
def A_mnM (m : Nat → Int32) : Nat → Int32 × Int32
  | 0 => (1, 1000000)
  | n + 1 => if m (n + 1) < (A_mnM m n).2 then (nI (n + 1), m (n + 1)) else A_mnM m n
theorem A_mxC_s (m : Nat → Int32) {k : Nat} (h : 2 ≤ k) : A_mxC m (k + 1 - 2) = if (A_mxC m (k - 2)).2 < m k then (nI k, m k) else A_mxC m (k - 2) := by
  obtain ⟨n, rfl⟩ : ∃ n, k = n + 2 := ⟨k - 2, by omega⟩
  rw [show n + 2 + 1 - 2 = n + 1 by omega, show n + 2 - 2 = n by omega]
  rfl
theorem A_mnC_s (m : Nat → Int32) {k : Nat} (h : 2 ≤ k) : A_mnC m (k + 1 - 2) = if m k < (A_mnC m (k - 2)).2 then (nI k, m k) else A_mnC m (k - 2) := by
  obtain ⟨n, rfl⟩ : ∃ n, k = n + 2 := ⟨k - 2, by omega⟩
  rw [show n + 2 + 1 - 2 = n + 1 by omega, show n + 2 - 2 = n by omega]
  rfl
theorem A_mxM_s (m : Nat → Int32) {k : Nat} (h : 1 ≤ k) : A_mxM m (k + 1 - 1) = if (A_mxM m (k - 1)).2 < m k then (nI k, m k) else A_mxM m (k - 1) := by
  obtain ⟨n, rfl⟩ : ∃ n, k = n + 1 := ⟨k - 1, by omega⟩
  rw [show n + 1 + 1 - 1 = n + 1 by omega, show n + 1 - 1 = n by omega]
  rfl
theorem A_mnM_s (m : Nat → Int32) {k : Nat} (h : 1 ≤ k) : A_mnM m (k + 1 - 1) = if m k < (A_mnM m (k - 1)).2 then (nI k, m k) else A_mnM m (k - 1) := by
  obtain ⟨n, rfl⟩ : ∃ n, k = n + 1 := ⟨k - 1, by omega⟩
  rw [show n + 1 + 1 - 1 = n + 1 by omega, show n + 1 - 1 = n by omega]
  rfl
theorem A_mx_eq {m : Nat → Int32} (h : -1 < m 1) : ∀ n : Nat, A_mxM m (n + 1) = A_mxC m n := by
  intro n
  induction n with
  | zero => show (if (-1 : Int32) < m 1 then (nI 1, m 1) else (1, -1)) = (1, m 1); rw [if_pos h]; rfl
  | succ n ih =>
    rw [A_mxM, A_mxC, ih]
theorem A_mn_eq {m : Nat → Int32} (h : m 1 < 1000000) : ∀ n : Nat, A_mnM m (n + 1) = A_mnC m n := by
  intro n
  induction n with
  | zero => show (if m 1 < (1000000 : Int32) then (nI 1, m 1) else (1, 1000000)) = (1, m 1); rw [if_pos h]; rfl
  | succ n ih =>
    rw [A_mnM, A_mnC, ih]
theorem A_mx_eqc {m : Nat → Int32} (h : -1 < m 1) {c : Nat} (hc : 2 ≤ c) : A_mxM m (c - 1) = A_mxC m (c - 2) := by
  rw [show c - 1 = c - 2 + 1 by omega]; exact A_mx_eq h _
theorem A_mn_eqc {m : Nat → Int32} (h : m 1 < 1000000) {c : Nat} (hc : 2 ≤ c) : A_mnM m (c - 1) = A_mnC m (c - 2) := by
  rw [show c - 1 = c - 2 + 1 by omega]; exact A_mn_eq h _
theorem A_mxC_congr {m w : Nat → Int32} : ∀ n : Nat, (∀ k, 1 ≤ k → k ≤ n + 1 → m k = w k) → A_mxC m n = A_mxC w n := by
  intro n
  induction n with
  | zero => intro h; show ((1 : Int32), m 1) = (1, w 1); rw [h 1 (by omega) (by omega)]
  | succ n ih =>
    intro h
    rw [A_mxC, A_mxC, ih (fun k h1 h2 => h k h1 (by omega)), h (n + 2) (by omega) (by omega)]
theorem A_mnC_congr {m w : Nat → Int32} : ∀ n : Nat, (∀ k, 1 ≤ k → k ≤ n + 1 → m k = w k) → A_mnC m n = A_mnC w n := by
  intro n
  induction n with
  | zero => intro h; show ((1 : Int32), m 1) = (1, w 1); rw [h 1 (by omega) (by omega)]
  | succ n ih =>
    intro h
    rw [A_mnC, A_mnC, ih (fun k h1 h2 => h k h1 (by omega)), h (n + 2) (by omega) (by omega)]
theorem A_mxM_congr {m w : Nat → Int32} : ∀ n : Nat, (∀ k, 1 ≤ k → k ≤ n → m k = w k) → A_mxM m n = A_mxM w n := by
  intro n
  induction n with
  | zero => intro h; rfl
  | succ n ih =>
    intro h
    rw [A_mxM, A_mxM, ih (fun k h1 h2 => h k h1 (by omega)), h (n + 1) (by omega) (by omega)]
theorem A_mnM_congr {m w : Nat → Int32} : ∀ n : Nat, (∀ k, 1 ≤ k → k ≤ n → m k = w k) → A_mnM m n = A_mnM w n := by
  intro n
  induction n with
  | zero => intro h; rfl
  | succ n ih =>
    intro h
    rw [A_mnM, A_mnM, ih (fun k h1 h2 => h k h1 (by omega)), h (n + 1) (by omega) (by omega)]
/-- the cut that is found is one -/
theorem A_mnC_n {m : Nat → Int32} : ∀ n : Nat, ∃ k : Nat, 1 ≤ k ∧ k ≤ n + 1 ∧ (A_mnC m n).1 = nI k := by
  intro n
  induction n with
  | zero => exact ⟨1, by omega, by omega, rfl⟩
  | succ n ih =>
    obtain ⟨k, h1, h2, h3⟩ := ih
    by_cases e : m (n + 2) < (A_mnC m n).2
    · exact ⟨n + 2, by omega, by omega, by rw [A_mnC, if_pos e]⟩
    · exact ⟨k, h1, by omega, by rw [A_mnC, if_neg e, h3]⟩
theorem A_mxC_n {m : Nat → Int32} : ∀ n : Nat, ∃ k : Nat, 1 ≤ k ∧ k ≤ n + 1 ∧ (A_mxC m n).1 = nI k := by
  intro n
  induction n with
  | zero => exact ⟨1, by omega, by omega, rfl⟩
  | succ n ih =>
    obtain ⟨k, h1, h2, h3⟩ := ih
    by_cases e : (A_mxC m n).2 < m (n + 2)
    · exact ⟨n + 2, by omega, by omega, by rw [A_mxC, if_pos e]⟩
    · exact ⟨k, h1, by omega, by rw [A_mxC, if_neg e, h3]⟩
/-- the best is what is found there -/
theorem A_mxC_v {m : Nat → Int32} : ∀ n : Nat, ∃ k : Nat, 1 ≤ k ∧ k ≤ n + 1 ∧ (A_mxC m n).1 = nI k ∧ (A_mxC m n).2 = m k := by
  intro n
  induction n with
  | zero => exact ⟨1, by omega, by omega, rfl, rfl⟩
  | succ n ih =>
    obtain ⟨k, h1, h2, h3, h4⟩ := ih
    by_cases e : (A_mxC m n).2 < m (n + 2)
    · exact ⟨n + 2, by omega, by omega, by rw [A_mxC, if_pos e], by rw [A_mxC, if_pos e]⟩
    · exact ⟨k, h1, by omega, by rw [A_mxC, if_neg e, h3], by rw [A_mxC, if_neg e, h4]⟩
-- how many bits
def A_us (x : Int32) (k : Int32) : Int32 := (x.toUInt32 >>> (k.toUInt32 &&& Int32.toUInt32 31)).toInt32
def A_bc1 (x : Int32) : Int32 := x - (A_us x 1 &&& 1431655765)
def A_bc2 (x : Int32) : Int32 := (x &&& 858993459) + (A_us x 2 &&& 858993459)
def A_bc3 (x : Int32) : Int32 := x + A_us x 4 &&& 252645135
def A_bc4 (x : Int32) : Int32 := x + A_us x 8
def A_bc5 (x : Int32) : Int32 := x + A_us x 16
def A_bc (x : Int32) : Int32 := A_bc5 (A_bc4 (A_bc3 (A_bc2 (A_bc1 x)))) &&& 63
def A_bo (x : Int32) : Nat → Int32
  | 0 => 0
  | n + 1 => A_bo x n + (x >>> (nI n &&& 31) &&& 1)
theorem A_bco : ∀ x, x < 256 → A_bc (nI x) = A_bo (nI x) 8 := by decide +kernel
theorem A_bob : ∀ x, x < 256 → -1 < A_bo (nI x) 8 := by decide +kernel
theorem A_jtb {v : Nat → Int32} : ∀ n, n < 5 → ∃ x, x < 2 ^ n ∧ A_jt v n = nI x := by
  have h : ∀ n, n < 4 → ∀ x, x < 2 ^ n → ∃ y, y < 2 ^ (n + 1) ∧ (nI x ||| (1 : Int32) <<< (nI n &&& 31)) = nI y := by decide +kernel
  intro n
  induction n with
  | zero => intro _; exact ⟨0, by decide, rfl⟩
  | succ n ih =>
    intro hn
    obtain ⟨x, hx, ex⟩ := ih (by omega)
    by_cases e : v n = 0
    · rw [A_jt, if_pos e, ex]; exact h n (by omega) x hx
    · rw [A_jt, if_neg e, ex]; exact ⟨x, Nat.lt_of_lt_of_le hx (Nat.pow_le_pow_right (by decide) (by omega)), rfl⟩
theorem A_jtb8 {v : Nat → Int32} {n : Nat} (hn : n ≤ 4) : ∃ x, x < 256 ∧ A_jt v n = nI x := by
  obtain ⟨x, hx, ex⟩ := A_jtb (v := v) n (by omega)
  exact ⟨x, Nat.lt_of_lt_of_le hx (Nat.le_trans (Nat.pow_le_pow_right (n := 2) (by decide) hn) (by decide)), ex⟩
-- sums are small
theorem A_wsb {f : Nat → Int32} {s : Int32} : ∀ n, n < 9 → (∀ q, q < n → ∃ x, x < 20 ∧ f q = nI x) → ∃ x, x ≤ 20 * n ∧ A_ws f s n = nI x := by
  intro n
  induction n with
  | zero => intro _ _; exact ⟨0, by decide, rfl⟩
  | succ n ih =>
    intro hn h
    obtain ⟨x, hx, ex⟩ := ih (by omega) (fun q hq => h q (by omega))
    obtain ⟨y, hy, ey⟩ := h n (by omega)
    by_cases b : s >>> (nI n &&& 31) &&& 1 = 1
    · rw [A_ws, if_pos b, ex, ey]; exact ⟨x + y, by omega, nI_add x y⟩
    · rw [A_ws, if_neg b, ex]; exact ⟨x, by omega, rfl⟩
theorem A_fcb {N : Nat → Nat} {J : Nat → Int32} {F : Nat → Nat → Int32} {j : Nat} (hK : thK N J F) (hj : j < N 1) : ∀ q, q < N 0 → ∃ x, x < 20 ∧ A_fc F j q = nI x := by
  intro q hq
  have I0 := hK.1.1
  obtain ⟨w, hw, ew⟩ := vp_in_of (hK.2.2.2.1.1 q hq) (by decide)
  obtain ⟨k, hk, ek⟩ := vp_in_of (hK.2.2.2.1.2.1 j hj) (by decide)
  show ∃ x, x < 20 ∧ A_wc (F 1 j) (F 0 q) q = nI x
  rw [ew, ek]
  exact A_wcb q (by omega) k hk w hw
theorem A_szb1 : ∀ z, z < 321 → A_sz (nI z) < 1000000 := by decide +kernel
theorem A_szb2 : ∀ z, z < 321 → A_sz (-(nI z)) < 1000000 := by decide +kernel
theorem A_szb {x y : Nat} (hx : x ≤ 160) (hy : y ≤ 160) : A_sz (nI x - nI y) < 1000000 := by
  by_cases h : y ≤ x
  · rw [pk_sub h]; exact A_szb1 _ (by omega)
  · rw [show nI x - nI y = -(nI (y - x)) from by rw [← pk_sub (a := y) (b := x) (by omega), Int32.neg_sub]]; exact A_szb2 _ (by omega)
theorem A_szC {m : Int32} : (if 0 ≤ m then m else 0 - m) = A_sz m := by
  unfold A_sz
  rw [Int32.zero_sub]
-- middle
def A_miC (N : Nat → Nat) (J : Nat → Int32) (F : Nat → Nat → Int32) : Nat → Int32 := fun k => A_bc (A_jt (A_vfc N J F (nI k)) (N 1))
def A_miM (c pe : Nat) (g : Nat → Int32) : Nat → Int32 := fun k => A_bo (A_jt (A_vfm c g (nI k)) pe) 8
def A_midC (N : Nat → Nat) (J : Nat → Int32) (F : Nat → Nat → Int32) (what : Int32) : Int32 := if hsin what 0 1 = true then (if what = 0 then (A_mxC (A_miC N J F) (N 0 - 2)).1 else (A_mxC (A_miC N J F) (N 0 - 2)).2) else -1
def A_midM (c pe : Nat) (g : Nat → Int32) (what : Int32) : Int32 := if hsin what 0 1 = true then (if what = 0 then (A_mxM (A_miM c pe g) (c - 1)).1 else (A_mxM (A_miM c pe g) (c - 1)).2) else -1
theorem A_miM_congr {c pe : Nat} {g g2 : Nat → Int32} (hc : c ≤ 8) (hp : pe ≤ 4) (h : ∀ q, q < 44 → g2 q = g q) : ∀ k, A_miM c pe g2 k = A_miM c pe g k := by
  intro k
  show A_bo (A_jt (A_vfm c g2 (nI k)) pe) 8 = A_bo (A_jt (A_vfm c g (nI k)) pe) 8
  rw [A_jt_congr pe (fun q hq => A_vfm_congr hc h q (by omega))]
theorem R_middle {N : Nat → Nat} {J : Nat → Int32} {F : Nat → Nat → Int32} {g : Nat → Int32} {pe hm : Nat} {what : Int32} (hR : rT N J F g pe hm) (hK : thK N J F) : A_midC N J F what = A_midM (N 0) pe g what := by
  have I0 := hK.1.1
  have I1 := hK.1.2.1
  have h2 := hK.2.2.1
  have hp := hR.2.1.1
  subst hp
  have e : ∀ k, k < 9 → A_miC N J F k = A_miM (N 0) (N 1) g k := by
    intro k hk
    show A_bc (A_jt (A_vfc N J F (nI k)) (N 1)) = A_bo (A_jt (A_vfm (N 0) g (nI k)) (N 1)) 8
    rw [← A_jt_congr (N 1) (R_vfcm hR hK hk)]
    obtain ⟨x, hx, ex⟩ := A_jtb8 (v := A_vfc N J F (nI k)) I1
    rw [ex]; exact A_bco x hx
  have hm1 : -1 < A_miM (N 0) (N 1) g 1 := by
    obtain ⟨x, hx, ex⟩ := A_jtb8 (v := A_vfm (N 0) g (nI 1)) I1
    show -1 < A_bo (A_jt (A_vfm (N 0) g (nI 1)) (N 1)) 8
    rw [ex]; exact A_bob x hx
  unfold A_midC A_midM
  rw [A_mx_eqc hm1 h2, A_mxC_congr _ (fun k _ hk => e k (by omega))]
-- honest
def A_hoC (N : Nat → Nat) (F : Nat → Nat → Int32) (j : Nat) : Nat → Int32 := fun k => if 0 ≤ A_ld (A_fc F j) (A_lf (nI k)) (N 0) then A_ld (A_fc F j) (A_lf (nI k)) (N 0) else 0 - A_ld (A_fc F j) (A_lf (nI k)) (N 0)
def A_hoM (c : Nat) (g : Nat → Int32) (j : Nat) : Nat → Int32 := fun k => A_sz (A_ml (A_fm g j) (A_lf (nI k)) c)
def A_honC (N : Nat → Nat) (F : Nat → Nat → Int32) (p : Int32) : Int32 := if hslt p (N 1) = true then (A_mnC (A_hoC N F p.toNatClampNeg) (N 0 - 2)).1 else -1
def A_honM (c pe : Nat) (g : Nat → Int32) (p : Int32) : Int32 := if hslt p pe = true then (A_mnM (A_hoM c g p.toNatClampNeg) (c - 1)).1 else -1
theorem A_hoM_congr {c j : Nat} {g g2 : Nat → Int32} (hc : c ≤ 8) (hj : j < 4) (h : ∀ q, q < 44 → g2 q = g q) : ∀ k, A_hoM c g2 j k = A_hoM c g j k := by
  intro k
  show A_sz (A_ml (A_fm g2 j) (A_lf (nI k)) c) = A_sz (A_ml (A_fm g j) (A_lf (nI k)) c)
  rw [A_ml_congr c (fun x hx => A_fm_congr hj h x (by omega))]
theorem R_ho {N : Nat → Nat} {J : Nat → Int32} {F : Nat → Nat → Int32} {g : Nat → Int32} {pe hm j : Nat} (hR : rT N J F g pe hm) (hK : thK N J F) (hj : j < N 1) : ∀ k, k < 9 → A_hoC N F j k = A_hoM (N 0) g j k := by
  intro k hk
  have I0 := hK.1.1
  unfold A_hoC A_hoM
  rw [A_szC, A_lf_n k hk, A_ld_ml I0 (A_lf_b k hk), A_ml_congr (N 0) (R_fcm hR hK hj)]
theorem R_ho1 {N : Nat → Nat} {J : Nat → Int32} {F : Nat → Nat → Int32} {j : Nat} (hK : thK N J F) (hj : j < N 1) : ∀ k, k < 9 → A_hoC N F j k < 1000000 := by
  intro k hk
  have I0 := hK.1.1
  unfold A_hoC
  rw [A_szC, A_lf_n k hk, A_ld_ml I0 (A_lf_b k hk), A_ml]
  obtain ⟨x, hx, ex⟩ := A_wsb (s := nI (2 ^ k - 1)) (N 0) (by omega) (A_fcb hK hj)
  obtain ⟨y, hy, ey⟩ := A_wsb (s := nI (2 ^ (N 0) - 1) &&& (nI (2 ^ k - 1) ^^^ -1)) (N 0) (by omega) (A_fcb hK hj)
  rw [ex, ey]
  exact A_szb (by omega) (by omega)
theorem R_hon {N : Nat → Nat} {J : Nat → Int32} {F : Nat → Nat → Int32} {g : Nat → Int32} {pe hm j : Nat} (hR : rT N J F g pe hm) (hK : thK N J F) (hj : j < N 1) : A_mnC (A_hoC N F j) (N 0 - 2) = A_mnM (A_hoM (N 0) g j) (N 0 - 1) := by
  have I0 := hK.1.1
  have h2 := hK.2.2.1
  rw [← A_mnM_congr (N 0 - 1) (fun k _ hk => R_ho hR hK hj k (by omega))]
  exact (A_mn_eqc (R_ho1 hK hj 1 (by decide)) h2).symm
theorem R_honest {N : Nat → Nat} {J : Nat → Int32} {F : Nat → Nat → Int32} {g : Nat → Int32} {pe hm : Nat} {p : Int32} (hR : rT N J F g pe hm) (hK : thK N J F) : A_honC N F p = A_honM (N 0) pe g p := by
  have I1 := hK.1.2.1
  unfold A_honC A_honM
  rw [hR.2.1.1]
  by_cases e : hslt p (N 1) = true
  · rw [if_pos e, if_pos e]
    obtain ⟨j, hj, ej⟩ := hslt_ex e
    rw [ej, nI_clamp (by omega), R_hon hR hK hj]
  · rw [if_neg e, if_neg e]
