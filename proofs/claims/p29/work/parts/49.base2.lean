-- GENERAL: any state that keeps its bounds
def hslt (v : Int32) (n : Nat) : Bool := decide (0 ≤ v.toInt) && decide (v.toInt < n)
def hslt1 (v : Int32) (n : Nat) : Bool := decide (1 ≤ v.toInt) && decide (v.toInt < n)
theorem hslt_ex {v : Int32} {n : Nat} (h : hslt v n = true) : ∃ j : Nat, j < n ∧ v = nI j := by
  simp only [hslt, Bool.and_eq_true, decide_eq_true_eq] at h
  have hr : v.toInt < 2147483648 := (Int32.toInt_lt v)
  refine ⟨v.toInt.toNat, by omega, Int32.toInt_inj.mp ?_⟩
  rw [nI_toInt (by omega)]
  omega
theorem hs_sub1 {n : Nat} (hn : n < 2 ^ 30) : (nI n - 1).toInt = (n : Int) - 1 := pk_sub_toInt (a := n) (b := 1) hn (by decide)
theorem hslt_in {v : Int32} {n : Nat} (hn : n < 2 ^ 30) : hsin v 0 (nI n - 1) = hslt v n := by
  unfold hsin hslt
  have z : (0 : Int32).toInt = 0 := rfl
  congr 1
  · exact decide_eq_decide.mpr (by rw [Int32.le_iff_toInt_le, z])
  · exact decide_eq_decide.mpr (by rw [Int32.le_iff_toInt_le, hs_sub1 hn]; omega)
theorem hslt1_in {v : Int32} {n : Nat} (hn : n < 2 ^ 30) : hsin v 1 (nI n - 1) = hslt1 v n := by
  unfold hsin hslt1
  have z : (1 : Int32).toInt = 1 := by decide
  congr 1
  · exact decide_eq_decide.mpr (by rw [Int32.le_iff_toInt_le, z])
  · exact decide_eq_decide.mpr (by rw [Int32.le_iff_toInt_le, hs_sub1 hn]; omega)
theorem hs_m1 {n : Nat} (h : 1 ≤ n) : nI n + Int32.ofInt (-1) = nI (n - 1) := by
  obtain ⟨m, rfl⟩ : ∃ m, n = m + 1 := ⟨n - 1, by omega⟩
  exact pk_m1 m
/-- one shifted left by a small number -/
theorem hs_shl {n : Nat} (h : n < 31) : (1 : Int32) <<< (nI n &&& 31) = nI (2 ^ n) := by
  have e : ((nI n &&& 31).toBitVec.smod 32).toNat = n := by
    have key : ∀ m : Fin 31, ((nI m.val &&& 31).toBitVec.smod 32).toNat = m.val := by decide
    exact key ⟨n, h⟩
  have hp : 2 ^ n < 2 ^ 32 := Nat.pow_lt_pow_right (by decide) (by omega)
  have := pk_shlN (n := 1) (nI n &&& 31) n e (by omega)
  rw [Nat.one_mul] at this
  exact this
theorem hs_and_le {a : Nat} (h : a < 2 ^ 31) (x : Int32) : ∃ b : Nat, b ≤ a ∧ nI a &&& x = nI b := by
  refine ⟨a &&& x.toBitVec.toNat, Nat.and_le_left, ?_⟩
  apply Int32.toBitVec_inj.mp
  apply BitVec.eq_of_toNat_eq
  rw [Int32.toBitVec_and, BitVec.toNat_and, pk_tn (by omega)]
  have hb : a &&& x.toBitVec.toNat ≤ a := Nat.and_le_left
  rw [pk_tn (by omega)]
section HSW
variable {p : Program} {l : Launch} {e : Env} {R : Room} {s : State} {m : MethodId} {args : Array Value} {below : List Frame} {meth : Method} {c : Code} {H : Heap} {locs : List Loc} {cells slots : Nat} {Q : State → Prop}
variable {pc maxL : Nat} {ls : Array Slot} {A : Nat → Prop} {H0 : Heap} {D : va_G}
/-- a loop by a measure: what its head knows of a state x -/
theorem hs_while {σ : Type} (I : σ → Prop) (μ : σ → Nat) (wi : σ → va_W) (li : σ → List (Nat × Value))
    (step : ∀ x : σ, I x → (∀ y : σ, I y → μ y < μ x → ∀ (H : Heap) (locs : List Loc) (ls : Array Slot), va_P D vwCl (wi y) H → va_D A (wi y) → va_S A H0 H locs → lv_has ls maxL (li y) → W p l e R s m args below meth c H locs cells slots Q (F0 m pc ls [])) → ∀ (H : Heap) (locs : List Loc) (ls : Array Slot), va_P D vwCl (wi x) H → va_D A (wi x) → va_S A H0 H locs → lv_has ls maxL (li x) → W p l e R s m args below meth c H locs cells slots Q (F0 m pc ls []))
    (x : σ) (hI : I x) (hP : va_P D vwCl (wi x) H) (hD : va_D A (wi x)) (hS : va_S A H0 H locs) (hl : lv_has ls maxL (li x)) : W p l e R s m args below meth c H locs cells slots Q (F0 m pc ls []) := by
  have key : ∀ (n : Nat) (x : σ), μ x < n → I x → ∀ (H : Heap) (locs : List Loc) (ls : Array Slot), va_P D vwCl (wi x) H → va_D A (wi x) → va_S A H0 H locs → lv_has ls maxL (li x) → W p l e R s m args below meth c H locs cells slots Q (F0 m pc ls []) := by
    intro n
    induction n with
    | zero => intro x hx; exact absurd hx (Nat.not_lt_zero _)
    | succ n ih =>
      intro x hx hI
      exact step x hI (fun y hy hm => ih y (by omega) hy)
  exact key (μ x + 1) x (Nat.lt_succ_self _) hI H locs ls hP hD hS hl
end HSW
/-- a Thing's counts (cells, people, halves, pairs, seen) and rows keep their bounds -/
def thN (N : Nat → Nat) : Prop := N 0 ≤ 8 ∧ N 1 ≤ 4 ∧ (2 ≤ N 2 ∧ N 2 ≤ 5) ∧ N 3 ≤ 8 ∧ N 4 ≤ 6
def thF (N : Nat → Nat) (F : Nat → Nat → Int32) : Prop := (∀ i, i < N 3 → vp_in (F 3 i) 5) ∧ (∀ i, i < N 4 → vp_in (F 4 i) 4)
/-- how long a Thing's rows are -/
def hs7 (q : Nat) : Nat := ([8, 4, 8, 8, 6, 6, 6] : List Nat).getD q 0
theorem hs_cpy7 (F G : Nat → Nat → Int32) : ∀ q i, i < hs7 q → (fun j => ([va_cpy (G 0) (F 0) 0 0 8, va_cpy (G 1) (F 1) 0 0 4, va_cpy (G 2) (F 2) 0 0 8, va_cpy (G 3) (F 3) 0 0 8, va_cpy (G 4) (F 4) 0 0 6, va_cpy (G 5) (F 5) 0 0 6, va_cpy (G 6) (F 6) 0 0 6] : List (Nat → Int32)).getD j hsz) q i = G q i := by
  have key : ∀ (f g : Nat → Int32) (n i : Nat), i < n → va_cpy f g 0 0 n i = f i := fun f g n i h => by
    rw [pk_cpy_in (Nat.zero_le i) (by omega)]
    simp
  intro q i h
  match q, h with
  | 0, h => exact key _ _ _ _ h
  | 1, h => exact key _ _ _ _ h
  | 2, h => exact key _ _ _ _ h
  | 3, h => exact key _ _ _ _ h
  | 4, h => exact key _ _ _ _ h
  | 5, h => exact key _ _ _ _ h
  | 6, h => exact key _ _ _ _ h
  | q + 7, h => exact absurd h (by simp [hs7])
section HSJN
variable {p : Program} {l : Launch} {e : Env} {R : Room} {s : State} {m : MethodId} {args : Array Value} {below : List Frame} {meth : Method} {c : Code} {H : Heap} {locs : List Loc} {cells slots : Nat} {Q : State → Prop}
variable {pc1 maxL : Nat} {A : Nat → Prop} {H0 : Heap} {D : va_G} {g : JFrame}
/-- a place where roads meet: what it knows of a state x -/
theorem hs_join {σ : Type} (I : σ → Prop) (wi : σ → va_W) (li : σ → List (Nat × Value)) (kj : ∀ x : σ, I x → ∀ (H : Heap) (locs : List Loc) (ls : Array Slot), va_P D vwCl (wi x) H → va_D A (wi x) → va_S A H0 H locs → lv_has ls maxL (li x) → W p l e R s m args below meth c H locs cells slots Q (F0 m pc1 ls []))
    (k : (∀ x : σ, I x → ∀ (H : Heap) (locs : List Loc) (ls : Array Slot), va_P D vwCl (wi x) H → va_D A (wi x) → va_S A H0 H locs → lv_has ls maxL (li x) → W p l e R s m args below meth c H locs cells slots Q (F0 m pc1 ls [])) → W p l e R s m args below meth c H locs cells slots Q g) : W p l e R s m args below meth c H locs cells slots Q g := k kj
end HSJN
theorem hs_inJ {v : Int32} {n : Nat} (hn : n < 2 ^ 30) (h : hsin v 0 (nI n - 1) = true) : ∃ j : Nat, j < n ∧ v = nI j := hslt_ex ((hslt_in hn).symm.trans h)
theorem hs_mu {f f' a b : Nat} (hf : f = 0) (ha : 0 < a) (h : f' = 0 → b < a) : (if f' = 0 then b else 0) < (if f = 0 then a else 0) := by
  rw [if_pos hf]
  by_cases e : f' = 0
  · rw [if_pos e]; exact h e
  · rw [if_neg e]; exact ha
theorem hs_uc {f : Nat → Int32} {n q : Nat} {v : Int32} (hn : n < 2 ^ 31) (h : ¬ q = n) : upd f (nI n).toNatClampNeg v q = f q := by
  rw [nI_clamp hn]
  simp only [upd]
  exact if_neg h
theorem hs_ue {f : Nat → Int32} {n q : Nat} {v : Int32} (hn : n < 2 ^ 31) (h : q = n) : upd f (nI n).toNatClampNeg v q = v := by
  rw [nI_clamp hn]
  simp only [upd]
  exact if_pos h
theorem hs_un {f : Nat → Int32} {n q : Nat} {v : Int32} (h : ¬ q = n) : upd f n v q = f q := by
  simp only [upd]
  exact if_neg h
theorem hs_uq {f : Nat → Int32} {n q : Nat} {v : Int32} (h : q = n) : upd f n v q = v := by
  simp only [upd]
  exact if_pos h
