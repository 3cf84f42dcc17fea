-- SHARES with the fewest CUTS
def A_cuC (c : Nat) (s : Int32) : Int32 := A_bc ((s ^^^ (s >>> ((1 : Int32) &&& 31))) &&& ((1 : Int32) <<< ((nI c - 1) &&& 31) - 1))
def A_cuM (s : Int32) : Nat → Int32
  | 0 => 0
  | n + 1 => A_cuM s n + (if s >>> (nI (n + 1) &&& 31) &&& 1 = s >>> (nI n &&& 31) &&& 1 then 0 else 1)
theorem A_cuM_s (s : Int32) {k : Nat} (h : 1 ≤ k) : A_cuM s (k + 1 - 1) = A_cuM s (k - 1) + (if s >>> (nI k &&& 31) &&& 1 = s >>> (nI (k - 1) &&& 31) &&& 1 then 0 else 1) := by
  obtain ⟨n, rfl⟩ : ∃ n, k = n + 1 := ⟨k - 1, by omega⟩
  rw [show n + 1 + 1 - 1 = n + 1 by omega, show n + 1 - 1 = n by omega]
  rfl
theorem A_cuCM : ∀ c, c < 9 → 2 ≤ c → ∀ s, s < 2 ^ c → A_cuC c (nI s) = A_cuM (nI s) (c - 1) ∧ A_cuC c (nI s) < 8 := by decide +kernel
def A_ab (x : Int32) : Int32 := if 0 ≤ x then x else 0 - x
def A_jsC (N : Nat → Nat) (J : Nat → Int32) (F : Nat → Nat → Int32) (m s : Int32) : Nat → Bool
  | 0 => true
  | q + 1 => A_jsC N J F m s q && !(decide (m >>> (nI q &&& 31) &&& 1 = 1) && decide (J 0 < A_ab (A_ld (A_fc F q) s (N 0))))
def A_jsM (c : Nat) (g : Nat → Int32) (m s : Int32) : Nat → Bool
  | 0 => true
  | q + 1 => A_jsM c g m s q && (decide (m >>> (nI q &&& 31) &&& 1 = 0) || decide (A_sz (A_ml (A_fm g q) s c) ≤ g 13))
theorem A_jsC_f {N : Nat → Nat} {J : Nat → Int32} {F : Nat → Nat → Int32} {m s : Int32} {q : Nat} (h : A_jsC N J F m s q = false) : ∀ d : Nat, A_jsC N J F m s (q + d) = false := by
  intro d
  induction d with
  | zero => exact h
  | succ d ih =>
    show (A_jsC N J F m s (q + d) && _) = false
    rw [ih, Bool.false_and]
theorem A_jsC_no {N : Nat → Nat} {J : Nat → Int32} {F : Nat → Nat → Int32} {m s : Int32} {q n : Nat} (h : A_jsC N J F m s (q + 1) = false) (hq : q < n) : A_jsC N J F m s n = false := by
  rw [show n = q + 1 + (n - (q + 1)) by omega]
  exact A_jsC_f h _
theorem A_jsM_congr {c : Nat} {g g2 : Nat → Int32} {m s : Int32} (hc : c ≤ 8) (h : ∀ q, q < 44 → g2 q = g q) : ∀ n, n ≤ 4 → A_jsM c g2 m s n = A_jsM c g m s n := by
  intro n
  induction n with
  | zero => intro _; rfl
  | succ n ih =>
    intro hn
    rw [A_jsM, A_jsM, ih (by omega), h 13 (by decide), A_ml_congr c (fun x hx => A_fm_congr (show n < 4 by omega) h x (by omega))]
theorem A_b01 (x : Int32) : (x &&& 1 = 0) ∨ (x &&& 1 = 1) := by
  obtain ⟨j, hj, ej⟩ := pk_andE x (m := 1) 1 (by decide)
  rcases (show j = 0 ∨ j = 1 by omega) with rfl | rfl
  · exact Or.inl ej
  · exact Or.inr ej
theorem R_js {N : Nat → Nat} {J : Nat → Int32} {F : Nat → Nat → Int32} {g : Nat → Int32} {pe hm s : Nat} {m : Int32} (hR : rT N J F g pe hm) (hK : thK N J F) (hs : s < 256) : ∀ n, n ≤ N 1 → A_jsC N J F m (nI s) n = A_jsM (N 0) g m (nI s) n := by
  have I0 := hK.1.1
  intro n
  induction n with
  | zero => intro _; rfl
  | succ n ih =>
    intro hn
    rw [A_jsC, A_jsM, ih (by omega), A_ld_ml I0 hs, A_ml_congr (N 0) (R_fcm hR hK (show n < N 1 by omega)), hR.2.2.1.1]
    congr 1
    rw [show A_ab (A_ml (A_fm g n) (nI s) (N 0)) = A_sz (A_ml (A_fm g n) (nI s) (N 0)) from A_szC]
    rcases A_b01 (m >>> (nI n &&& 31)) with e | e
    · rw [e]; simp
    · rw [e, decide_eq_true (show (1 : Int32) = 1 from rfl), decide_eq_false (show ¬ (1 : Int32) = 0 from by decide), Bool.true_and, Bool.false_or]
      by_cases z : A_sz (A_ml (A_fm g n) (nI s) (N 0)) ≤ J 0
      · rw [decide_eq_true z, decide_eq_false (Int32.not_lt.mpr z)]; rfl
      · rw [decide_eq_false z, decide_eq_true (Int32.not_le.mp z)]; rfl
def A_fwC (cu : Nat → Int32) (P : Nat → Bool) : Nat → Int32 × Int32
  | 0 => (-4, 8)
  | n + 1 => if cu n < (A_fwC cu P n).2 ∧ P n = true then (nI n, cu n) else A_fwC cu P n
def A_fwM (cu : Nat → Int32) (P : Nat → Bool) : Nat → Int32 × Int32
  | 0 => (-4, 1000000)
  | n + 1 => if cu n < (A_fwM cu P n).2 ∧ P n = true then (nI n, cu n) else A_fwM cu P n
theorem A_fw {cu cv : Nat → Int32} {P Q : Nat → Bool} : ∀ n, n ≤ 256 → (∀ k, k < n → cu k = cv k ∧ cu k < 8 ∧ P k = Q k) → (A_fwC cu P n = (-4, 8) ∧ A_fwM cv Q n = (-4, 1000000)) ∨ ∃ k, k < 256 ∧ k < n ∧ A_fwC cu P n = (nI k, cu k) ∧ A_fwM cv Q n = (nI k, cv k) := by
  intro n
  induction n with
  | zero => intro _ _; exact Or.inl ⟨rfl, rfl⟩
  | succ n ih =>
    intro hn h
    obtain ⟨e1, e2, e3⟩ := h n (by omega)
    rcases ih (by omega) (fun k hk => h k (by omega)) with ⟨a, b⟩ | ⟨k, hk, hkn, a, b⟩
    · rw [A_fwC, A_fwM, a, b]
      by_cases z : P n = true
      · have y := Int32.lt_iff_toInt_lt.mp e2
        rw [if_pos ⟨e2, z⟩, if_pos ⟨by rw [← e1]; exact Int32.lt_iff_toInt_lt.mpr (Int.lt_trans y (by decide)), by rw [← e3]; exact z⟩]
        exact Or.inr ⟨n, by omega, by omega, rfl, by rw [← e1, e1]⟩
      · rw [if_neg (fun t => z t.2), if_neg (fun t => z (by rw [e3]; exact t.2))]
        exact Or.inl ⟨rfl, rfl⟩
    · rw [A_fwC, A_fwM, a, b]
      have ek := (h k (by omega)).1
      by_cases z : cu n < cu k ∧ P n = true
      · rw [if_pos z, if_pos ⟨by rw [← e1, ← ek]; exact z.1, by rw [← e3]; exact z.2⟩]
        exact Or.inr ⟨n, by omega, by omega, rfl, rfl⟩
      · rw [if_neg z, if_neg (fun t => z ⟨by rw [e1, ek]; exact t.1, by rw [e3]; exact t.2⟩)]
        exact Or.inr ⟨k, hk, by omega, rfl, rfl⟩
theorem A_fwM_congr {cu : Nat → Int32} {P Q : Nat → Bool} : ∀ n, (∀ k, k < n → P k = Q k) → A_fwM cu P n = A_fwM cu Q n := by
  intro n
  induction n with
  | zero => intro _; rfl
  | succ n ih =>
    intro h
    rw [A_fwM, A_fwM, ih (fun k hk => h k (by omega)), h n (by omega)]
def A_haF (N : Nat → Nat) (J : Nat → Int32) (F : Nat → Nat → Int32) (m : Int32) : Int32 := (A_fwC (fun n => A_cuC (N 0) (nI n)) (fun n => A_jsC N J F m (nI n) (N 1)) (2 ^ N 0)).1
def A_haG (c pe : Nat) (g : Nat → Int32) (m : Int32) : Nat → Int32 × Int32 := A_fwM (fun n => A_cuM (nI n) (c - 1)) (fun n => A_jsM c g m (nI n) pe)
def A_haC (N : Nat → Nat) (J : Nat → Int32) (F : Nat → Nat → Int32) (m what : Int32) : Int32 := if (hsin m 0 (nI (2 ^ N 1 - 1)) && hsin what 0 1) = true then (if A_haF N J F m = -4 then -4 else if what = 0 then A_cuC (N 0) (A_haF N J F m) else A_haF N J F m) else -1
def A_haM (c pe : Nat) (g : Nat → Int32) (m what : Int32) : Int32 := if (hsin m 0 ((1 : Int32) <<< (nI pe &&& 31) - 1) && hsin what 0 1) = true then (if (A_haG c pe g m (2 ^ c)).1 = -4 then -4 else if what = 0 then (A_haG c pe g m (2 ^ c)).2 else (A_haG c pe g m (2 ^ c)).1) else -1
theorem A_n4 : ∀ k, k < 256 → ¬ nI k = -4 := by decide +kernel
theorem R_halves {N : Nat → Nat} {J : Nat → Int32} {F : Nat → Nat → Int32} {g : Nat → Int32} {pe hm : Nat} {m what : Int32} (hR : rT N J F g pe hm) (hK : thK N J F) : A_haC N J F m what = A_haM (N 0) pe g m what := by
  have I0 := hK.1.1
  have I1 := hK.1.2.1
  have h2 := hK.2.2.1
  have hp : 2 ^ N 0 ≤ 256 := Nat.le_trans (Nat.pow_le_pow_right (n := 2) (by decide) I0) (by decide)
  unfold A_haC A_haM
  rw [hR.2.1.1, hs_shl (n := N 1) (by omega), show nI (2 ^ N 1) - 1 = nI (2 ^ N 1 - 1) from pk_sub (b := 1) Nat.one_le_two_pow]
  by_cases e : (hsin m 0 (nI (2 ^ N 1 - 1)) && hsin what 0 1) = true
  · rw [if_pos e, if_pos e]
    unfold A_haF A_haG
    rcases A_fw (cu := fun n => A_cuC (N 0) (nI n)) (cv := fun n => A_cuM (nI n) (N 0 - 1)) (P := fun n => A_jsC N J F m (nI n) (N 1)) (Q := fun n => A_jsM (N 0) g m (nI n) (N 1)) (2 ^ N 0) hp (fun k hk => ⟨(A_cuCM (N 0) (by omega) h2 k hk).1, (A_cuCM (N 0) (by omega) h2 k hk).2, R_js hR hK (by omega) (N 1) (Nat.le_refl _)⟩) with ⟨a, b⟩ | ⟨k, hk, hkn, a, b⟩
    · rw [a, b]; rfl
    · rw [a, b]
      show (if nI k = -4 then (-4 : Int32) else if what = 0 then A_cuC (N 0) (nI k) else nI k) = if nI k = -4 then -4 else if what = 0 then A_cuM (nI k) (N 0 - 1) else nI k
      rw [if_neg (A_n4 k hk), if_neg (A_n4 k hk), (A_cuCM (N 0) (by omega) h2 k hkn).1]
  · rw [if_neg e, if_neg e]

theorem hs_fwn {c pe se : Nat} {g : Nat → Int32} {a fo few : Int32} (h : se < 2 ^ c ∧ fo = (A_haG c pe g a se).1 ∧ few = (A_haG c pe g a se).2) (hb : (decide (A_cuM (nI se) (c - 1) < few) && A_jsM c g a (nI se) pe) = false) : se + 1 ≤ 2 ^ c ∧ fo = (A_haG c pe g a (se + 1)).1 ∧ few = (A_haG c pe g a (se + 1)).2 := by
  obtain ⟨h1, h2, h3⟩ := h
  have e : A_haG c pe g a (se + 1) = A_haG c pe g a se := by
    show (if A_cuM (nI se) (c - 1) < (A_haG c pe g a se).2 ∧ A_jsM c g a (nI se) pe = true then (nI se, A_cuM (nI se) (c - 1)) else A_haG c pe g a se) = A_haG c pe g a se
    rw [← h3]
    refine if_neg (fun t => ?_)
    rw [decide_eq_true t.1, t.2] at hb
    exact absurd hb (by decide)
  rw [e]
  exact ⟨h1, h2, h3⟩
theorem hs_fwy {c pe se : Nat} {g : Nat → Int32} {a fo few : Int32} (h : se < 2 ^ c ∧ fo = (A_haG c pe g a se).1 ∧ few = (A_haG c pe g a se).2) (hb : (decide (A_cuM (nI se) (c - 1) < few) && A_jsM c g a (nI se) pe) = true) : se + 1 ≤ 2 ^ c ∧ nI se = (A_haG c pe g a (se + 1)).1 ∧ A_cuM (nI se) (c - 1) = (A_haG c pe g a (se + 1)).2 := by
  obtain ⟨h1, h2, h3⟩ := h
  have e : A_haG c pe g a (se + 1) = (nI se, A_cuM (nI se) (c - 1)) := by
    show (if A_cuM (nI se) (c - 1) < (A_haG c pe g a se).2 ∧ A_jsM c g a (nI se) pe = true then (nI se, A_cuM (nI se) (c - 1)) else A_haG c pe g a se) = _
    rw [← h3]
    exact if_pos ⟨of_decide_eq_true (hs_and1 hb), hs_and2 hb⟩
  rw [e]
  exact ⟨h1, rfl, rfl⟩
