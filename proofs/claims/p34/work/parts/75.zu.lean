-- WHAT ASKS: the plain ones
def A_cellQ (n : Nat) (w : Nat → Int32) (i : Int32) : Int32 := if hslt i n then w i.toNatClampNeg else -1
def A_cellM (n b : Nat) (s : Nat → Int32) (i : Int32) : Int32 := if hslt i n then s (b + i.toNatClampNeg) else -1
theorem A_cell_eq {n b : Nat} {w s : Nat → Int32} {i : Int32} (hn : n < 2 ^ 30) (h : ∀ j, j < n → s (b + j) = w j) : A_cellQ n w i = A_cellM n b s i := by
  unfold A_cellQ A_cellM
  by_cases e : hslt i n = true
  · obtain ⟨j, hj, ej⟩ := hslt_ex e
    rw [if_pos e, if_pos e, ej, nI_clamp (by omega), h j hj]
  · rw [if_neg e, if_neg e]
def smW (w : Nat → Int32) : Nat → Int32
  | 0 => 0
  | n + 1 => smW w n + w n
theorem smW_congr {w v : Nat → Int32} : ∀ n : Nat, (∀ j, j < n → w j = v j) → smW w n = smW v n := by
  intro n
  induction n with
  | zero => intro _; rfl
  | succ n ih =>
    intro h
    show smW w n + w n = smW v n + v n
    rw [ih (fun j hj => h j (by omega)), h n (by omega)]
def A_rl (a b c d e f g x what : Int32) : Int32 := if what = 0 then a else if what = 1 then b else if what = 2 then c else if what = 3 then d else if what = 4 then e else if what = 5 then f else if what = 6 then g else if what = 7 then x else -1
theorem A_rl_bad {a b c d e f g x what : Int32} (h0 : ¬ what = 0) (h1 : ¬ what = 1) (h2 : ¬ what = 2) (h3 : ¬ what = 3) (h4 : ¬ what = 4) (h5 : ¬ what = 5) (h6 : ¬ what = 6) (h7 : ¬ what = 7) : A_rl a b c d e f g x what = -1 := by
  unfold A_rl
  rw [if_neg h0, if_neg h1, if_neg h2, if_neg h3, if_neg h4, if_neg h5, if_neg h6, if_neg h7]
def A_ct (a b c d what : Int32) : Int32 := if what = 0 then a else if what = 1 then b else if what = 2 then c else if what = 3 then d else -1
theorem A_ct_bad {a b c d what : Int32} (h0 : ¬ what = 0) (h1 : ¬ what = 1) (h2 : ¬ what = 2) (h3 : ¬ what = 3) : A_ct a b c d what = -1 := by
  unfold A_ct
  rw [if_neg h0, if_neg h1, if_neg h2, if_neg h3]
def fl01 (x : Int32) : Int32 := if x = 0 then 0 else 1
def flS (it : Nat → Int32) : Nat → Int32
  | 0 => 0
  | n + 1 => if it n = 0 then flS it n else flS it n + 1
theorem fl_eq {it kf : Nat → Int32} (h0 : (it 0 = 0 ∧ kf 0 = 0) ∨ (it 0 = 1 ∧ kf 0 = 1)) (h1 : (it 1 = 0 ∧ kf 1 = 0) ∨ (it 1 = 1 ∧ kf 1 = 1)) : flS it 2 = fl01 (kf 0) + fl01 (kf 1) := by
  show (if it 1 = 0 then (if it 0 = 0 then (0 : Int32) else 0 + 1) else (if it 0 = 0 then 0 else 0 + 1) + 1) = (if kf 0 = 0 then 0 else 1) + (if kf 1 = 0 then 0 else 1)
  rcases h0 with ⟨a, b⟩ | ⟨a, b⟩ <;> rcases h1 with ⟨c, d⟩ | ⟨c, d⟩ <;> rw [a, b, c, d] <;> decide
theorem rI_fl {it kf : Int32} {N : Nat → Nat} {J : Nat → Int32} {F : Nat → Nat → Int32} {g : Nat → Int32} {pe hm : Nat} (h : rI it kf N J F g pe hm) : (it = 0 ∧ kf = 0) ∨ (it = 1 ∧ kf = 1) := h.elim Or.inl (fun z => Or.inr ⟨z.1, z.2.1⟩)
