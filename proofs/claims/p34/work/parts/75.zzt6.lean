theorem A_alc {a b c : Int32} : a + (b + c) = b + (a + c) := by
  rw [← Int32.add_assoc, Int32.add_comm a b, Int32.add_assoc]
-- DRIFT: to how many PEOPLE each CUT is JUST, summed: by PEOPLE (the class) and by CUTS (the reference)
def A_pf (f : Nat → Int32) : Nat → Int32
  | 0 => 0
  | n + 1 => A_pf f n + f n
def A_mr (f : Nat → Int32) (t : Int32) : Nat → Int32
  | 0 => -t
  | k + 1 => A_mr f t k + 2 * f k
theorem A_2m {x : Int32} : 2 * x = x + x := by
  rw [show (2 : Int32) = 1 + 1 from by decide, Int32.add_mul, Int32.one_mul]
theorem A_mr_pf {f : Nat → Int32} {t : Int32} : ∀ k : Nat, A_mr f t k = -t + (A_pf f k + A_pf f k) := by
  intro k
  induction k with
  | zero => show -t = -t + (0 + 0); rw [Int32.add_zero, Int32.add_zero]
  | succ k ih =>
    rw [A_mr, ih, A_2m, A_pf]
    simp only [Int32.add_assoc, Int32.add_comm, A_alc]
theorem A_bitl : ∀ k, k < 9 → ∀ i, i < 8 → (nI (2 ^ k - 1) >>> (nI i &&& 31) &&& 1 = 1 ↔ i < k) := by decide +kernel
theorem A_ws_all {f : Nat → Int32} {m : Nat} (hm : m ≤ 8) : ∀ n : Nat, n ≤ m → A_ws f (nI (2 ^ m - 1)) n = A_pf f n := by
  intro n
  induction n with
  | zero => intro _; rfl
  | succ n ih =>
    intro h
    rw [A_ws, if_pos ((A_bitl m (by omega) n (by omega)).mpr (by omega)), ih (by omega), A_pf]
theorem A_ld_lo {f : Nat → Int32} {k : Nat} (hk : k ≤ 8) : ∀ n : Nat, n ≤ k → A_ld f (nI (2 ^ k - 1)) n = A_pf f n := by
  intro n
  induction n with
  | zero => intro _; rfl
  | succ n ih =>
    intro h
    rw [A_ld, if_pos ((A_bitl k (by omega) n (by omega)).mpr (by omega)), ih (by omega), A_pf]
theorem A_ld_hi {f : Nat → Int32} {k : Nat} (hk : k ≤ 8) : ∀ d : Nat, k + d ≤ 8 → A_ld f (nI (2 ^ k - 1)) (k + d) = -(A_pf f (k + d)) + (A_pf f k + A_pf f k) := by
  intro d
  induction d with
  | zero =>
    intro _
    show A_ld f (nI (2 ^ k - 1)) k = -(A_pf f k) + (A_pf f k + A_pf f k)
    rw [A_ld_lo hk k (Nat.le_refl _), ← Int32.add_assoc, Int32.add_left_neg, Int32.zero_add]
  | succ d ih =>
    intro h
    show A_ld f (nI (2 ^ k - 1)) (k + d + 1) = -(A_pf f (k + d + 1)) + (A_pf f k + A_pf f k)
    rw [A_ld, if_neg (fun t => absurd ((A_bitl k (by omega) (k + d) (by omega)).mp t) (by omega)), ih (by omega), A_pf, Int32.neg_add, Int32.sub_eq_add_neg]
    simp only [Int32.add_assoc, Int32.add_comm, A_alc]
theorem A_mr_ld {f : Nat → Int32} {k n : Nat} (hk : k ≤ n) (hn : n ≤ 8) : A_mr f (A_ws f (nI (2 ^ n - 1)) n) k = A_ld f (A_lf (nI k)) n := by
  have h := A_ld_hi (f := f) (k := k) (by omega) (n - k) (by omega)
  rw [show k + (n - k) = n by omega] at h
  rw [A_lf_n k (by omega), h, A_mr_pf, A_ws_all hn n (Nat.le_refl _)]
-- sums over cuts 1 to k
def A_sc (f : Nat → Int32) : Nat → Int32
  | 0 => 0
  | k + 1 => A_sc f k + f (k + 1)
theorem A_sc_congr {f g : Nat → Int32} : ∀ n : Nat, (∀ k, 1 ≤ k → k ≤ n → f k = g k) → A_sc f n = A_sc g n := by
  intro n
  induction n with
  | zero => intro _; rfl
  | succ n ih =>
    intro h
    rw [A_sc, A_sc, ih (fun k h1 h2 => h k h1 (by omega)), h (n + 1) (by omega) (by omega)]
theorem A_sc_add {f g : Nat → Int32} : ∀ n : Nat, A_sc (fun k => f k + g k) n = A_sc f n + A_sc g n := by
  intro n
  induction n with
  | zero => show (0 : Int32) = 0 + 0; decide
  | succ n ih =>
    rw [A_sc, A_sc, A_sc, ih]
    simp only [Int32.add_assoc, Int32.add_comm, A_alc]
theorem A_sc_0 : ∀ n : Nat, A_sc (fun _ => 0) n = 0 := by
  intro n
  induction n with
  | zero => rfl
  | succ n ih => rw [A_sc, ih, Int32.add_zero]
def A_in (x : Int32) : Int32 := if x = 0 then 1 else 0
def A_cn (v : Nat → Int32) : Nat → Int32
  | 0 => 0
  | n + 1 => A_cn v n + A_in (v n)
theorem A_bo_jt {v : Nat → Int32} : ∀ n, n ≤ 4 → A_bo (A_jt v n) 8 = A_cn v n := by
  have hs : ∀ n, n < 4 → ∀ x, x < 2 ^ n → A_bo (nI x ||| (1 : Int32) <<< (nI n &&& 31)) 8 = A_bo (nI x) 8 + 1 := by decide +kernel
  intro n
  induction n with
  | zero => intro _; show A_bo 0 8 = 0; decide +kernel
  | succ n ih =>
    intro h
    obtain ⟨x, hx, ex⟩ := A_jtb (v := v) n (by omega)
    by_cases e : v n = 0
    · rw [A_jt, if_pos e, A_cn, A_in, if_pos e, ← ih (by omega), ex]
      exact hs n (by omega) x hx
    · rw [A_jt, if_neg e, A_cn, A_in, if_neg e, ih (by omega), Int32.add_zero]
/-- by PEOPLE -/
def A_sp (b : Nat → Nat → Int32) (k : Nat) : Nat → Int32
  | 0 => 0
  | p + 1 => A_sp b k p + A_sc (fun j => b j p) k
theorem A_sw {v : Nat → Nat → Int32} {k : Nat} : ∀ n : Nat, A_sc (fun j => A_cn (v j) n) k = A_sp (fun j p => A_in (v j p)) k n := by
  intro n
  induction n with
  | zero => exact A_sc_0 k
  | succ n ih =>
    rw [A_sp, ← ih]
    exact A_sc_add k
-- the class's pass a PERSON
def A_di (N : Nat → Nat) (J : Nat → Int32) (F : Nat → Nat → Int32) (k p : Nat) : Int32 := if J 0 < A_ab (A_mr (A_fc F p) (A_ws (A_fc F p) (nI (2 ^ N 0 - 1)) (N 0)) k) then 0 else 1
theorem A_mr_s {f : Nat → Int32} {t : Int32} {k : Nat} (h : 1 ≤ k) : A_mr f t k = A_mr f t (k - 1) + 2 * f (k - 1) := by
  obtain ⟨n, rfl⟩ : ∃ n, k = n + 1 := ⟨k - 1, by omega⟩
  rfl
theorem A_sc_s {f : Nat → Int32} {k : Nat} (h : 1 ≤ k) : A_sc f (k + 1 - 1) = A_sc f (k - 1) + f k := by
  obtain ⟨n, rfl⟩ : ∃ n, k = n + 1 := ⟨k - 1, by omega⟩
  rfl
def A_jiC (N : Nat → Nat) (J : Nat → Int32) (F : Nat → Nat → Int32) : Nat → Int32 := A_sp (A_di N J F) (N 0 - 1)
def A_jiM (c pe : Nat) (g : Nat → Int32) : Nat → Int32 := fun k => A_bo (A_jt (A_vfm c g (nI k)) pe) 8
theorem A_vd_in {m sl : Int32} : A_in (A_vd m sl) = if sl < A_ab m then 0 else 1 := by
  unfold A_in A_vd A_ab
  by_cases e : sl < (if 0 ≤ m then m else 0 - m)
  · rw [if_pos e, if_pos e]
    by_cases z : m ≤ 0
    · rw [if_pos z]; decide
    · rw [if_neg z]; decide
  · rw [if_neg e, if_neg e]; decide
theorem R_ji {N : Nat → Nat} {J : Nat → Int32} {F : Nat → Nat → Int32} {g : Nat → Int32} {pe hm : Nat} (hR : rT N J F g pe hm) (hK : thK N J F) : A_jiC N J F (N 1) = A_sc (A_jiM (N 0) pe g) (N 0 - 1) := by
  have I0 := hK.1.1
  have I1 := hK.1.2.1
  have hp := hR.2.1.1
  subst hp
  rw [A_sc_congr (g := fun k => A_cn (A_vfc N J F (nI k)) (N 1)) (N 0 - 1) (fun k h1 h2 => by
    show A_bo (A_jt (A_vfm (N 0) g (nI k)) (N 1)) 8 = A_cn (A_vfc N J F (nI k)) (N 1)
    rw [← A_jt_congr (N 1) (R_vfcm hR hK (show k < 9 by omega)), A_bo_jt (N 1) I1]), A_sw (v := fun k => A_vfc N J F (nI k))]
  have e : ∀ n : Nat, A_sp (A_di N J F) (N 0 - 1) n = A_sp (fun j p => A_in (A_vfc N J F (nI j) p)) (N 0 - 1) n := by
    intro n
    induction n with
    | zero => rfl
    | succ n ih =>
      rw [A_sp, A_sp, ih, A_sc_congr (f := fun j => A_di N J F j n) (g := fun j => A_in (A_vfc N J F (nI j) n)) (N 0 - 1) (fun k h1 h2 => by
        show A_di N J F k n = A_in (A_vd (A_ld (A_fc F n) (A_lf (nI k)) (N 0)) (J 0))
        rw [A_vd_in, A_di, A_mr_ld (by omega) I0])]
  exact e (N 1)

-- DRIFT itself: seed and WEIGHTS behind each time
def A_dw (c : Nat) (s : Int32) (w : Nat → Int32) : Nat → Int32 × (Nat → Int32)
  | 0 => (s, w)
  | i + 1 => (dr_a (A_dw c s w i).1, upd (A_dw c s w i).2 (dr_m (dr_a (A_dw c s w i).1) % c) (nI (dr_m (dr_a (A_dw c s w i).1) / 8 % 10)))
def A_ds (P : (Nat → Int32) → Int32) (c : Nat) (s : Int32) (w : Nat → Int32) : Nat → Int32
  | 0 => 0
  | i + 1 => A_ds P c s w i + P (A_dw c s w (i + 1)).2
theorem A_dw_1 {c : Nat} {s : Int32} {w v : Nat → Int32} : ∀ i : Nat, (A_dw c s w i).1 = (A_dw c s v i).1 := by
  intro i
  induction i with
  | zero => rfl
  | succ i ih =>
    show dr_a (A_dw c s w i).1 = dr_a (A_dw c s v i).1
    rw [ih]
theorem A_dw_2 {c : Nat} {s : Int32} {w v : Nat → Int32} (h : ∀ q, q < c → w q = v q) : ∀ i : Nat, ∀ q, q < c → (A_dw c s w i).2 q = (A_dw c s v i).2 q := by
  intro i
  induction i with
  | zero => exact h
  | succ i ih =>
    intro q hq
    show upd (A_dw c s w i).2 (dr_m (dr_a (A_dw c s w i).1) % c) (nI (dr_m (dr_a (A_dw c s w i).1) / 8 % 10)) q = upd (A_dw c s v i).2 (dr_m (dr_a (A_dw c s v i).1) % c) (nI (dr_m (dr_a (A_dw c s v i).1) / 8 % 10)) q
    rw [A_dw_1 (v := v) i]
    by_cases e : q = dr_m (dr_a (A_dw c s v i).1) % c
    · rw [hs_uq e, hs_uq e]
    · rw [hs_un e, hs_un e]; exact ih q hq
theorem A_dw_b {c : Nat} {s : Int32} {w : Nat → Int32} (h : ∀ q, q < c → vp_in (w q) 10) : ∀ i : Nat, ∀ q, q < c → vp_in ((A_dw c s w i).2 q) 10 := by
  intro i
  induction i with
  | zero => exact h
  | succ i ih =>
    intro q hq
    show vp_in (upd (A_dw c s w i).2 (dr_m (dr_a (A_dw c s w i).1) % c) (nI (dr_m (dr_a (A_dw c s w i).1) / 8 % 10)) q) 10
    by_cases e : q = dr_m (dr_a (A_dw c s w i).1) % c
    · rw [hs_uq e]; exact vp_in_nI (Nat.mod_lt _ (by decide)) (by decide)
    · rw [hs_un e]; exact ih q hq
theorem A_ds_congr {P Q : (Nat → Int32) → Int32} {c : Nat} {s : Int32} {w v : Nat → Int32} : ∀ n : Nat, (∀ i, i ≤ n → P (A_dw c s w i).2 = Q (A_dw c s v i).2) → A_ds P c s w n = A_ds Q c s v n := by
  intro n
  induction n with
  | zero => intro _; rfl
  | succ n ih =>
    intro h
    rw [A_ds, A_ds, ih (fun i hi => h i (by omega)), h (n + 1) (Nat.le_refl _)]
-- the class
theorem A_dw_s {c : Nat} {s vv : Int32} {w wf : Nat → Int32} {i gt : Nat} (h1 : vv = (A_dw c s w i).1) (h2 : ∀ q, q < 8 → wf q = (A_dw c s w i).2 q) (e : gt = dr_m (vv * 1103515245 + 12345)) : vv * 1103515245 + 12345 = (A_dw c s w (i + 1)).1 ∧ ∀ q, q < 8 → upd wf (gt % c) (nI (gt / 8 % 10)) q = (A_dw c s w (i + 1)).2 q := by
  subst e
  subst h1
  refine ⟨rfl, fun q hq => ?_⟩
  show upd wf (dr_m (dr_a (A_dw c s w i).1) % c) (nI (dr_m (dr_a (A_dw c s w i).1) / 8 % 10)) q = upd (A_dw c s w i).2 (dr_m (dr_a (A_dw c s w i).1) % c) (nI (dr_m (dr_a (A_dw c s w i).1) / 8 % 10)) q
  by_cases z : q = dr_m (dr_a (A_dw c s w i).1) % c
  · rw [hs_uq z, hs_uq z]
  · rw [hs_un z, hs_un z]; exact h2 q hq
theorem A_drG {u F : Nat → Nat → Int32} {wf w : Nat → Int32} (hw : ∀ q i, i < hs7 q → u q i = F q i) (h : ∀ q, q < 8 → wf q = w q) : cpQ (fS0 F w) (fun k => ([wf, u 1, u 2, u 3, u 4, u 5, u 6] : List (Nat → Int32)).getD k hsz) := by
  intro q i hi
  match q, hi with
  | 0, hi => exact h i hi
  | 1, hi => exact hw 1 i hi
  | 2, hi => exact hw 2 i hi
  | 3, hi => exact hw 3 i hi
  | 4, hi => exact hw 4 i hi
  | 5, hi => exact hw 5 i hi
  | 6, hi => exact hw 6 i hi
  | q + 7, h => exact absurd h (by simp [hs7])
theorem A_mr_congr {f g : Nat → Int32} {t : Int32} : ∀ k : Nat, (∀ q, q < k → f q = g q) → A_mr f t k = A_mr g t k := by
  intro k
  induction k with
  | zero => intro _; rfl
  | succ k ih =>
    intro h
    rw [A_mr, A_mr, ih (fun q hq => h q (by omega)), h k (by omega)]
theorem A_di_congr {N : Nat → Nat} {J : Nat → Int32} {F G : Nat → Nat → Int32} {k p : Nat} (h0 : N 0 ≤ 8) (e : cpQ F G) (hp : p < 4) (hk : k ≤ 8) : A_di N J G k p = A_di N J F k p := by
  have e1 : A_ws (A_fc G p) (nI (2 ^ N 0 - 1)) (N 0) = A_ws (A_fc F p) (nI (2 ^ N 0 - 1)) (N 0) := A_ws_congr (N 0) (fun q hq => A_fc_congr hp e q (by omega))
  have e2 : ∀ t, A_mr (A_fc G p) t k = A_mr (A_fc F p) t k := fun t => A_mr_congr k (fun q hq => A_fc_congr hp e q (by omega))
  unfold A_di
  rw [e1, e2]
theorem A_sp_congr {b d : Nat → Nat → Int32} {k : Nat} : ∀ n : Nat, (∀ p, p < n → ∀ j, 1 ≤ j → j ≤ k → b j p = d j p) → A_sp b k n = A_sp d k n := by
  intro n
  induction n with
  | zero => intro _; rfl
  | succ n ih =>
    intro h
    rw [A_sp, A_sp, ih (fun p hp j h1 h2 => h p (by omega) j h1 h2), A_sc_congr k (fun j h1 h2 => h n (by omega) j h1 h2)]
theorem A_jiC_congr {N : Nat → Nat} {J : Nat → Int32} {F G : Nat → Nat → Int32} (h0 : N 0 ≤ 8) (e : cpQ F G) (n : Nat) (hn : n ≤ 4) : A_jiC N J G n = A_jiC N J F n :=
  A_sp_congr n (fun p hp j h1 h2 => A_di_congr h0 e (by omega) (by omega))
def A_jdC (N : Nat → Nat) (J : Nat → Int32) (F : Nat → Nat → Int32) (w : Nat → Int32) : Int32 := A_jiC N J (fS0 F w) (N 1)
def A_driC (N : Nat → Nat) (J : Nat → Int32) (F : Nat → Nat → Int32) (seed n what : Int32) : Int32 := if (hsin n 1 60 && hsin what 0 1) = true then (if what = 0 then A_ds (A_jdC N J F) (N 0) seed (F 0) n.toNatClampNeg else smW (A_dw (N 0) seed (F 0) n.toNatClampNeg).2 (N 0)) else -1
-- the reference
def A_gw (g w : Nat → Int32) (q : Nat) : Int32 := if 1 ≤ q ∧ q ≤ 8 then w (q - 1) else g q
def A_w1 (g : Nat → Int32) (q : Nat) : Int32 := g (1 + q)
theorem A_gw_o {g w : Nat → Int32} {q : Nat} (h : ¬ (1 ≤ q ∧ q ≤ 8)) : A_gw g w q = g q := if_neg h
theorem A_gw_0 {g w : Nat → Int32} : A_gw g w 0 = g 0 := if_neg (by omega)
theorem A_gw_i {g w : Nat → Int32} {q : Nat} (h : q < 8) : A_gw g w (1 + q) = w q := by
  unfold A_gw
  rw [if_pos (by omega), show 1 + q - 1 = q by omega]
theorem A_gw_id {g : Nat → Int32} (q : Nat) : A_gw g (A_w1 g) q = g q := by
  unfold A_gw A_w1
  by_cases h : 1 ≤ q ∧ q ≤ 8
  · rw [if_pos h, show 1 + (q - 1) = q by omega]
  · rw [if_neg h]
theorem A_gw_s {c : Nat} {s vv : Int32} {w g ag : Nat → Int32} {i gt : Nat} (hc : 0 < c) (hc8 : c ≤ 8) (h1 : vv = (A_dw c s w i).1) (h2 : ∀ q, q < 44 → ag q = A_gw g (A_dw c s w i).2 q) (e : gt = dr_m (vv * 1103515245 + 12345)) : vv * 1103515245 + 12345 = (A_dw c s w (i + 1)).1 ∧ ∀ q, q < 44 → upd ag (1 + gt % c) (nI (gt / 8 % 10)) q = A_gw g (A_dw c s w (i + 1)).2 q := by
  subst e
  subst h1
  refine ⟨rfl, fun q hq => ?_⟩
  have hm : dr_m (dr_a (A_dw c s w i).1) % c < c := Nat.mod_lt _ hc
  show upd ag (1 + dr_m (dr_a (A_dw c s w i).1) % c) (nI (dr_m (dr_a (A_dw c s w i).1) / 8 % 10)) q = A_gw g (upd (A_dw c s w i).2 (dr_m (dr_a (A_dw c s w i).1) % c) (nI (dr_m (dr_a (A_dw c s w i).1) / 8 % 10))) q
  unfold A_gw
  by_cases z : q = 1 + dr_m (dr_a (A_dw c s w i).1) % c
  · rw [hs_uq z, if_pos (by omega), hs_uq (by omega)]
  · rw [hs_un z, h2 q hq, A_gw]
    by_cases y : 1 ≤ q ∧ q ≤ 8
    · rw [if_pos y, if_pos y, hs_un (by omega)]
    · rw [if_neg y, if_neg y]
def A_jdM (c pe : Nat) (g w : Nat → Int32) : Int32 := A_sc (A_jiM c pe (A_gw g w)) (c - 1)
def A_driM (c pe : Nat) (g : Nat → Int32) (seed n what : Int32) : Int32 := if (hsin n 1 60 && hsin what 0 1) = true then (if what = 0 then A_ds (A_jdM c pe g) c seed (A_w1 g) n.toNatClampNeg else smW (A_dw c seed (A_w1 g) n.toNatClampNeg).2 c) else -1
theorem R_drift {N : Nat → Nat} {J : Nat → Int32} {F : Nat → Nat → Int32} {g : Nat → Int32} {pe hm : Nat} {seed n what : Int32} (hR : rT N J F g pe hm) (hK : thK N J F) : A_driC N J F seed n what = A_driM (N 0) pe g seed n what := by
  have I0 := hK.1.1
  have hw : ∀ q, q < N 0 → F 0 q = A_w1 g q := fun q hq => (hR.1.2 q hq).symm
  unfold A_driC A_driM
  by_cases e : (hsin n 1 60 && hsin what 0 1) = true
  · rw [if_pos e, if_pos e]
    by_cases z : what = 0
    · rw [if_pos z, if_pos z]
      refine A_ds_congr _ (fun i _ => ?_)
      show A_jiC N J (fS0 F (A_dw (N 0) seed (F 0) i).2) (N 1) = A_sc (A_jiM (N 0) pe (A_gw g (A_dw (N 0) seed (A_w1 g) i).2)) (N 0 - 1)
      refine R_ji (rT_w hR (fun q hq => ?_) (fun q hq => A_gw_o hq)) (thK_w hK (A_dw_b hK.2.2.2.1.1 i))
      rw [A_gw_i (by omega)]
      exact (A_dw_2 hw i q hq).symm
    · rw [if_neg z, if_neg z]
      exact smW_congr (N 0) (fun q hq => A_dw_2 hw _ q hq)
  · rw [if_neg e, if_neg e]
