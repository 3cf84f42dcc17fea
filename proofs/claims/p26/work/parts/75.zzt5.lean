-- as SEEN
def A_asC (N : Nat → Nat) (J : Nat → Int32) (F : Nat → Nat → Int32) : Nat → Bool
  | 0 => true
  | i + 1 => A_asC N J F i && (hslt1 (F 5 i) (N 0) && decide (A_vd (A_ld (A_fc F (F 4 i).toNatClampNeg) (A_lf (F 5 i)) (N 0)) (J 0) = F 6 i))
def A_asM (c : Nat) (g : Nat → Int32) : Nat → Bool
  | 0 => true
  | i + 1 => A_asM c g i && (decide (g (26 + 3 * i + 1) < nI c) && decide (A_vm (A_ml (A_fm g (g (26 + 3 * i)).toNatClampNeg) (A_lf (g (26 + 3 * i + 1))) c) (g 13) = g (26 + 3 * i + 2)))
theorem A_asC_f {N : Nat → Nat} {J : Nat → Int32} {F : Nat → Nat → Int32} {q : Nat} (h : A_asC N J F q = false) : ∀ d : Nat, A_asC N J F (q + d) = false := by
  intro d
  induction d with
  | zero => exact h
  | succ d ih =>
    show (A_asC N J F (q + d) && _) = false
    rw [ih, Bool.false_and]
theorem A_asC_no {N : Nat → Nat} {J : Nat → Int32} {F : Nat → Nat → Int32} {q n : Nat} (h : A_asC N J F (q + 1) = false) (hq : q < n) : A_asC N J F n = false := by
  rw [show n = q + 1 + (n - (q + 1)) by omega]
  exact A_asC_f h _
theorem A_fc_congr {F G : Nat → Nat → Int32} {j : Nat} (hj : j < 4) (e : cpQ F G) : ∀ q, q < 8 → A_fc G j q = A_fc F j q := by
  intro q hq
  show A_wc (G 1 j) (G 0 q) q = A_wc (F 1 j) (F 0 q) q
  rw [e 1 j (show j < 4 from hj), e 0 q (show q < 8 from hq)]
theorem A_asC_congr {N : Nat → Nat} {J : Nat → Int32} {F G : Nat → Nat → Int32} (h0 : N 0 ≤ 8) (e : cpQ F G) : ∀ n, n ≤ 6 → (∀ i, i < n → vp_in (F 4 i) 4) → A_asC N J G n = A_asC N J F n := by
  intro n
  induction n with
  | zero => intro _ _; rfl
  | succ n ih =>
    intro hn hb
    obtain ⟨p, hp, ep⟩ := vp_in_of (hb n (by omega)) (by decide)
    rw [A_asC, A_asC, ih (by omega) (fun i hi => hb i (by omega)), e 4 n (show n < 6 by omega), e 5 n (show n < 6 by omega), e 6 n (show n < 6 by omega), ep, nI_clamp (by omega), A_ld_congr (N 0) (fun x hx => A_fc_congr hp e x (by omega))]
theorem A_asM_congr {c : Nat} {g g2 : Nat → Int32} (hc : c ≤ 8) (h : ∀ q, q < 44 → g2 q = g q) : ∀ n, n ≤ 6 → (∀ i, i < n → vp_in (g (26 + 3 * i)) 4) → A_asM c g2 n = A_asM c g n := by
  intro n
  induction n with
  | zero => intro _ _; rfl
  | succ n ih =>
    intro hn hb
    obtain ⟨p, hp, ep⟩ := vp_in_of (hb n (by omega)) (by decide)
    rw [A_asM, A_asM, ih (by omega) (fun i hi => hb i (by omega)), h (26 + 3 * n) (by omega), h (26 + 3 * n + 1) (by omega), h (26 + 3 * n + 2) (by omega), h 13 (by decide), ep, nI_clamp (by omega), A_ml_congr c (fun x hx => A_fm_congr hp h x (by omega))]
theorem hslt1_nI {k n : Nat} (h1 : 1 ≤ k) (hk : k < 8) (hn : n ≤ 8) : hslt1 (nI k) n = decide (nI k < nI n) := by
  unfold hslt1
  rw [nI_toInt (by omega), decide_eq_true (show (1 : Int) ≤ (k : Int) by omega), Bool.true_and]
  exact decide_eq_decide.mpr ⟨fun h => (nI_ltI (by omega) (by omega)).mpr (by omega), fun h => by have := (nI_ltI (a := k) (b := n) (by omega) (by omega)).mp h; omega⟩
theorem R_as {N : Nat → Nat} {J : Nat → Int32} {F : Nat → Nat → Int32} {g : Nat → Int32} {pe hm : Nat} (hR : rT N J F g pe hm) (hK : thK N J F) : ∀ n, n ≤ N 4 → A_asC N J F n = A_asM (N 0) g n := by
  have I0 := hK.1.1
  have I1 := hK.1.2.1
  intro n
  induction n with
  | zero => intro _; rfl
  | succ n ih =>
    intro hn
    obtain ⟨a, b, d⟩ := hR.2.2.2.2.2.2 n (by omega)
    obtain ⟨⟨k, hk1, hk, ek⟩, -, p, hp, ep⟩ := hK.2.2.2.2.2.2 n (by omega)
    rw [A_asC, A_asM, ih (by omega), a, b, d, ep, ek, nI_clamp (by omega), hslt1_nI hk1 hk I0]
    have z := R_vfcm hR hK (k := k) (by omega) p hp
    show (A_asM (N 0) g n && (decide (nI k < nI (N 0)) && decide (A_vfc N J F (nI k) p = F 6 n))) = (A_asM (N 0) g n && (decide (nI k < nI (N 0)) && decide (A_vfm (N 0) g (nI k) p = F 6 n)))
    rw [z]
def A_btP (P : Nat → Bool) : Nat → Int32
  | 0 => 0
  | n + 1 => if P n = true then A_btP P n ||| (1 : Int32) <<< (nI n &&& 31) else A_btP P n
theorem A_btP_congr {P Q : Nat → Bool} : ∀ n : Nat, (∀ k, k < n → P k = Q k) → A_btP P n = A_btP Q n := by
  intro n
  induction n with
  | zero => intro _; rfl
  | succ n ih =>
    intro h
    rw [A_btP, A_btP, ih (fun k hk => h k (by omega)), h n (by omega)]
theorem A_bt0 : ∀ q, q < 10 → ((0 : Int32) <<< (nI q &&& 31)) = 0 := by decide +kernel
def A_ftP (N : Nat → Nat) (J : Nat → Int32) (F : Nat → Nat → Int32) (j : Nat) : Nat → Bool := fun v => A_asC N J (fS0 F (upd (F 0) j (nI v))) (N 4)
def A_kiP (N : Nat → Nat) (J : Nat → Int32) (F : Nat → Nat → Int32) (j : Nat) : Nat → Bool := fun v => A_asC N J (fS1 F (upd (F 1) j (nI v))) (N 4)
def A_ftM (c c4 : Nat) (g : Nat → Int32) (j : Nat) : Nat → Bool := fun v => A_asM c (upd g (1 + j) (nI v)) c4
def A_kiM (c c4 : Nat) (g : Nat → Int32) (j : Nat) : Nat → Bool := fun v => A_asM c (upd g (9 + j) (nI v)) c4
theorem A_trG0 {u F : Nat → Nat → Int32} {wf : Nat → Int32} {j : Nat} {x : Int32} (hw : ∀ q i, i < hs7 q → u q i = F q i) (h : ∀ q, q < 8 → ¬ q = j → wf q = F 0 q) : cpQ (fS0 F (upd (F 0) j x)) (fun k => ([upd wf j x, u 1, u 2, u 3, u 4, u 5, u 6] : List (Nat → Int32)).getD k hsz) := by
  intro q i hi
  match q, hi with
  | 0, hi =>
    show upd wf j x i = upd (F 0) j x i
    by_cases e : i = j
    · rw [hs_uq e, hs_uq e]
    · rw [hs_un e, hs_un e]; exact h i hi e
  | 1, hi => exact hw 1 i hi
  | 2, hi => exact hw 2 i hi
  | 3, hi => exact hw 3 i hi
  | 4, hi => exact hw 4 i hi
  | 5, hi => exact hw 5 i hi
  | 6, hi => exact hw 6 i hi
  | q + 7, h => exact absurd h (by simp [hs7])
theorem A_trG1 {u F : Nat → Nat → Int32} {wf : Nat → Int32} {j : Nat} {x : Int32} (hw : ∀ q i, i < hs7 q → u q i = F q i) (h : ∀ q, q < 4 → ¬ q = j → wf q = F 1 q) : cpQ (fS1 F (upd (F 1) j x)) (fun k => ([u 0, upd wf j x, u 2, u 3, u 4, u 5, u 6] : List (Nat → Int32)).getD k hsz) := by
  intro q i hi
  match q, hi with
  | 0, hi => exact hw 0 i hi
  | 1, hi =>
    show upd wf j x i = upd (F 1) j x i
    by_cases e : i = j
    · rw [hs_uq e, hs_uq e]
    · rw [hs_un e, hs_un e]; exact h i hi e
  | 2, hi => exact hw 2 i hi
  | 3, hi => exact hw 3 i hi
  | 4, hi => exact hw 4 i hi
  | 5, hi => exact hw 5 i hi
  | 6, hi => exact hw 6 i hi
  | q + 7, h => exact absurd h (by simp [hs7])
def A_fitC (N : Nat → Nat) (J : Nat → Int32) (F : Nat → Nat → Int32) (i : Int32) : Int32 := if hslt i (N 0) = true then A_btP (A_ftP N J F i.toNatClampNeg) 10 else -1
def A_fitM (c c4 : Nat) (g : Nat → Int32) (i : Int32) : Int32 := if hslt i c = true then A_btP (A_ftM c c4 g i.toNatClampNeg) 10 else -1
def A_kinC (N : Nat → Nat) (J : Nat → Int32) (F : Nat → Nat → Int32) (i : Int32) : Int32 := if hslt i (N 1) = true then A_btP (A_kiP N J F i.toNatClampNeg) 4 else -1
def A_kinM (c pe c4 : Nat) (g : Nat → Int32) (i : Int32) : Int32 := if hslt i pe = true then A_btP (A_kiM c c4 g i.toNatClampNeg) 4 else -1
theorem hslt_n9 {j n : Nat} (hj : j < n) (hn : n < 2 ^ 30) : hslt (nI j) n = true := by
  unfold hslt
  rw [nI_toInt (by omega), decide_eq_true (show (0 : Int) ≤ (j : Int) by omega), decide_eq_true (show (j : Int) < (n : Int) by omega)]
  rfl
theorem hsin9 : ∀ v, v < 10 → hsin (nI v) 0 9 = true := by decide +kernel
theorem hsin3 : ∀ v, v < 4 → hsin (nI v) 0 3 = true := by decide +kernel
theorem R_fits {N : Nat → Nat} {J : Nat → Int32} {F : Nat → Nat → Int32} {g : Nat → Int32} {pe hm : Nat} {i : Int32} (hR : rT N J F g pe hm) (hK : thK N J F) : A_fitC N J F i = A_fitM (N 0) (N 4) g i := by
  have I0 := hK.1.1
  unfold A_fitC A_fitM
  by_cases e : hslt i (N 0) = true
  · rw [if_pos e, if_pos e]
    obtain ⟨j, hj, ej⟩ := hslt_ex e
    rw [ej, nI_clamp (by omega)]
    refine A_btP_congr 10 (fun v hv => ?_)
    obtain ⟨-, z1, z2, -⟩ := R_weigh (i := nI j) (v := nI v) (u := upd (F 0) j (nI v)) (w := upd g (1 + j) (nI v)) hR hK (Or.inl ⟨by rw [hslt_n9 hj (by omega), hsin9 v hv]; rfl, rfl, by rw [nI_clamp (by omega)]⟩) (Or.inl ⟨by rw [hslt_n9 hj (by omega), hsin9 v hv]; rfl, rfl, by rw [nI_clamp (by omega)]⟩)
    exact R_as z1 z2 (N 4) (Nat.le_refl _)
  · rw [if_neg e, if_neg e]
theorem R_kinds {N : Nat → Nat} {J : Nat → Int32} {F : Nat → Nat → Int32} {g : Nat → Int32} {pe hm : Nat} {i : Int32} (hR : rT N J F g pe hm) (hK : thK N J F) : A_kinC N J F i = A_kinM (N 0) pe (N 4) g i := by
  have I0 := hK.1.1
  have I1 := hK.1.2.1
  have hp := hR.2.1.1
  subst hp
  unfold A_kinC A_kinM
  by_cases e : hslt i (N 1) = true
  · rw [if_pos e, if_pos e]
    obtain ⟨j, hj, ej⟩ := hslt_ex e
    rw [ej, nI_clamp (by omega)]
    refine A_btP_congr 4 (fun v hv => ?_)
    obtain ⟨-, z1, z2, -⟩ := R_teach (i := nI j) (v := nI v) (u := upd (F 1) j (nI v)) (w := upd g (9 + j) (nI v)) hR hK (Or.inl ⟨by rw [hslt_n9 hj (by omega), hsin3 v hv]; rfl, rfl, by rw [nI_clamp (by omega)]⟩) (Or.inl ⟨by rw [hslt_n9 hj (by omega), hsin3 v hv]; rfl, rfl, by rw [nI_clamp (by omega)]⟩)
    exact R_as z1 z2 (N 4) (Nat.le_refl _)
  · rw [if_neg e, if_neg e]
theorem A_updc {a s : Nat → Int32} {n : Nat} {x : Int32} (h : ∀ q, q < 44 → ¬ q = n → a q = s q) : ∀ q, q < 44 → upd a n x q = upd s n x q := by
  intro q hq
  by_cases e : q = n
  · rw [hs_uq e, hs_uq e]
  · rw [hs_un e, hs_un e]; exact h q hq e
theorem A_flg {s : Int32} {b : Bool} {q : Nat} (hq : q < 10) : (s ||| (if hsb b = 0 then 0 else 1) <<< (nI q &&& 31)) = if b = true then s ||| (1 : Int32) <<< (nI q &&& 31) else s := by
  cases b
  · show s ||| (0 : Int32) <<< (nI q &&& 31) = s
    rw [A_bt0 q hq, Int32.or_zero]
  · rfl
