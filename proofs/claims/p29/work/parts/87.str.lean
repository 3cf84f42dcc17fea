abbrev hsFL : List Cond := flatC (Jvm.Cond.and given_1 narrow_1)
def hsTm (i : Nat) : Term := Term.string "HalfScales$Teller" (hsWI.getD i 0)
def hsPl : List Nat := [25, 34, 44, 55, 68, 81, 94, 108, 123]
theorem hsw_at {n : Nat} {w : Cond} (h : hsFL[n]? = some w) : w ∈ hsFL := List.mem_of_getElem? h
set_option maxRecDepth 100000 in
theorem hsw_ex0 : ∀ i, i < 9 → hsFL[hsPl.getD i 0]? = some (Cond.exactly (hsTm i) "java/lang/String") := by decide +kernel
theorem hsw_ex : ∀ i, i < 9 → Cond.exactly (hsTm i) "java/lang/String" ∈ hsFL := fun i hi => hsw_at (hsw_ex0 i hi)
set_option maxRecDepth 100000 in
theorem hsw_co0 : ∀ i, i < 9 → hsFL[hsPl.getD i 0 + 1]? = some (Cond.eq (.field (hsTm i) "java/lang/String" "coder" "B") (.int 0)) := by decide +kernel
theorem hsw_co : ∀ i, i < 9 → Cond.eq (.field (hsTm i) "java/lang/String" "coder" "B") (.int 0) ∈ hsFL := fun i hi => hsw_at (hsw_co0 i hi)
set_option maxRecDepth 100000 in
theorem hsw_ar0 : ∀ i, i < 9 → hsFL[hsPl.getD i 0 + 2]? = some (Cond.arrayOf (.field (hsTm i) "java/lang/String" "value" "[B") .byte) := by decide +kernel
theorem hsw_ar : ∀ i, i < 9 → Cond.arrayOf (.field (hsTm i) "java/lang/String" "value" "[B") .byte ∈ hsFL := fun i hi => hsw_at (hsw_ar0 i hi)
set_option maxRecDepth 100000 in
theorem hsw_le0 : ∀ i, i < 9 → hsFL[hsPl.getD i 0 + 3]? = some (Cond.eq (.length (.field (hsTm i) "java/lang/String" "value" "[B")) (.int (Int32.ofNat (hsWL.getD i 0)))) := by decide +kernel
theorem hsw_le : ∀ i, i < 9 → Cond.eq (.length (.field (hsTm i) "java/lang/String" "value" "[B")) (.int (Int32.ofNat (hsWL.getD i 0))) ∈ hsFL := fun i hi => hsw_at (hsw_le0 i hi)
set_option maxRecDepth 100000 in
theorem hsw_el0 : ∀ i, i < 9 → ∀ j, j < hsWL.getD i 0 → hsFL[hsPl.getD i 0 + 4 + j]? = some (Cond.eq (.elem (.field (hsTm i) "java/lang/String" "value" "[B") (.int (Int32.ofNat j))) (.int ((hsWB.getD i []).getD j 0))) := by decide +kernel
theorem hsw_el : ∀ i, i < 9 → ∀ j, j < hsWL.getD i 0 → Cond.eq (.elem (.field (hsTm i) "java/lang/String" "value" "[B") (.int (Int32.ofNat j))) (.int ((hsWB.getD i []).getD j 0)) ∈ hsFL := fun i hi j hj => hsw_at (hsw_el0 i hi j hj)
set_option maxRecDepth 100000 in
theorem hsw_ne0 : ∀ i, i < 9 → ∀ j, j < i → hsFL[hsPl.getD i 0 + 4 + hsWL.getD i 0 + j]? = some (Cond.not (Cond.eq (hsTm j) (hsTm i))) := by decide +kernel
theorem hsw_ne : ∀ i, i < 9 → ∀ j, j < i → Cond.not (Cond.eq (hsTm i) (hsTm j)) ∈ hsFL ∨ Cond.not (Cond.eq (hsTm j) (hsTm i)) ∈ hsFL := fun i hi j hj => Or.inr (hsw_at (hsw_ne0 i hi j hj))
set_option maxRecDepth 100000 in
theorem hsw_cs0 : hsFL[4]? = some (Cond.eq (.static "java/lang/String" "COMPACT_STRINGS" "Z") (.int 1)) := by decide +kernel
theorem hsw_cs : Cond.eq (.static "java/lang/String" "COMPACT_STRINGS" "Z") (.int 1) ∈ hsFL := hsw_at hsw_cs0
set_option maxRecDepth 100000 in
theorem hsw_fm0 : hsFL[5]? = some (Cond.isRef (.static "jdk/internal/util/Preconditions" "SIOOBE_FORMATTER" "Ljava/util/function/BiFunction;")) := by decide +kernel
theorem hsw_fm : Cond.isRef (.static "jdk/internal/util/Preconditions" "SIOOBE_FORMATTER" "Ljava/util/function/BiFunction;") ∈ hsFL := hsw_at hsw_fm0

set_option maxHeartbeats 4000000 in
set_option maxRecDepth 100000 in
theorem hs_words {s : State} {b : Nat} (hts : ∀ w ∈ lw_tbl, w.before #[Value.ref b] s = true) (hgv : (Jvm.Cond.and given_1 narrow_1).before #[Value.ref b] s = true) : ∃ K : (Nat → Nat) × (Nat → Nat), hsS K (fun q : Nat => s.heap.size ≤ q) s s.heap := by
  have hs := flat_of_before _ hgv
  have hA : ∀ a : Nat, a < s.heap.size → ¬ (fun q : Nat => s.heap.size ≤ q) a := fun a h => Nat.not_le.mpr h
  obtain ⟨adK, adV, hE, hev⟩ := vk_Sof (args := #[Value.ref b]) (s := s) (N := 9) (tm := hsTm) (len := hsWL) (byt := hsWB) (A := (fun q : Nat => s.heap.size ≤ q)) (by decide) (fun i hi => hs _ (hsw_ex i hi)) (fun i hi => hs _ (hsw_co i hi)) (fun i hi => hs _ (hsw_ar i hi)) (fun i hi => hs _ (hsw_le i hi)) (fun i hi j hj => hs _ (hsw_el i hi j hj))
    (fun i j hi hj hij => by
      rcases Nat.lt_or_gt_of_ne hij with h | h
      · rcases hsw_ne j hj i h with h1 | h1
        · exact Or.inr (hs _ h1)
        · exact Or.inl (hs _ h1)
      · rcases hsw_ne i hi j h with h1 | h1
        · exact Or.inl (hs _ h1)
        · exact Or.inr (hs _ h1)) hA
  refine ⟨(adK, adV), hE, fun i hi => ?_, ?_, ?_⟩
  · match i, hi with
    | 0, _ => exact vk_R.of (hts (.stringRef "HalfScales$Teller" 95 "plain") (hs_in1 2 56 rfl)) (hev 0 (by decide))
    | 1, _ => exact vk_R.of (hts (.stringRef "HalfScales$Teller" 97 "child") (hs_in1 2 57 rfl)) (hev 1 (by decide))
    | 2, _ => exact vk_R.of (hts (.stringRef "HalfScales$Teller" 99 "sweet") (hs_in1 2 58 rfl)) (hev 2 (by decide))
    | 3, _ => exact vk_R.of (hts (.stringRef "HalfScales$Teller" 101 "dealer") (hs_in1 2 59 rfl)) (hev 3 (by decide))
    | 4, _ => exact vk_R.of (hts (.stringRef "HalfScales$Teller" 103 "thing") (hs_in1 2 60 rfl)) (hev 4 (by decide))
    | 5, _ => exact vk_R.of (hts (.stringRef "HalfScales$Teller" 105 "slip") (hs_in1 2 61 rfl)) (hev 5 (by decide))
    | 6, _ => exact vk_R.of (hts (.stringRef "HalfScales$Teller" 106 "fine") (hs_in1 2 62 rfl)) (hev 6 (by decide))
    | 7, _ => exact vk_R.of (hts (.stringRef "HalfScales$Teller" 107 "case") (hs_in1 2 63 rfl)) (hev 7 (by decide))
    | 8, _ => exact vk_R.of (hts (.stringRef "HalfScales$Teller" 109 "lighter") (hs_in1 2 64 rfl)) (hev 8 (by decide))
    | i + 9, hi => exact absurd hi (by omega)
  · exact va_Zof (hts (.laysStatic "java/lang/String" "COMPACT_STRINGS" "Z") (hs_in1 2 78 rfl)) (hts (.initialized "java/lang/String") (hs_in1 1 9 rfl)) (va_eqi (hs _ hsw_cs)) hA
  · exact va_Zqof (hts (.laysStatic "jdk/internal/util/Preconditions" "SIOOBE_FORMATTER" "Ljava/util/function/BiFunction;") (hs_in1 2 94 rfl)) (hts (.initialized "jdk/internal/util/Preconditions") (hs_in1 1 11 rfl)) (hs _ hsw_fm) hA
