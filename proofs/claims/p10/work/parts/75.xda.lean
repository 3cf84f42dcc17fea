/-- which line a NAME begins -/
def cLn (f : Nat → Int32) (kd : Int32) (st be : Nat) : Int32 := if kd = 1 then (if A_word f st be 0 = true then 0 else if A_word f st be 1 = true then 1 else if A_word f st be 2 = true then 2 else if A_word f st be 3 = true then 3 else if A_word f st be 4 = true then 4 else if A_word f st be 5 = true then 5 else if A_word f st be 6 = true then 6 else if A_word f st be 7 = true then 7 else if A_word f st be 8 = true then 8 else -4) else -4
theorem cLn_no {f : Nat → Int32} {kd : Int32} {st be : Nat} (h : ¬ kd = 1) : cLn f kd st be = -4 := by rw [cLn, if_neg h]
theorem cLn_none {f : Nat → Int32} {kd : Int32} {st be : Nat} (h : ∀ w, w < 9 → A_word f st be w = false) : cLn f kd st be = -4 := by
  unfold cLn
  simp [h 0 (by decide), h 1 (by decide), h 2 (by decide), h 3 (by decide), h 4 (by decide), h 5 (by decide), h 6 (by decide), h 7 (by decide), h 8 (by decide)]
theorem cLn_at {f : Nat → Int32} {kd : Int32} {st be w : Nat} (h1 : kd = 1) (hw : w < 9) (h : ∀ v, v < w → A_word f st be v = false) (hy : A_word f st be w = true) : cLn f kd st be = nI w := by
  unfold cLn
  rcases (show w = 0 ∨ w = 1 ∨ w = 2 ∨ w = 3 ∨ w = 4 ∨ w = 5 ∨ w = 6 ∨ w = 7 ∨ w = 8 by omega) with rfl | rfl | rfl | rfl | rfl | rfl | rfl | rfl | rfl
  · simp [h1, hy]; rfl
  · simp [h1, hy, h 0 (by decide)]; rfl
  · simp [h1, hy, h 0 (by decide), h 1 (by decide)]; rfl
  · simp [h1, hy, h 0 (by decide), h 1 (by decide), h 2 (by decide)]; rfl
  · simp [h1, hy, h 0 (by decide), h 1 (by decide), h 2 (by decide), h 3 (by decide)]; rfl
  · simp [h1, hy, h 0 (by decide), h 1 (by decide), h 2 (by decide), h 3 (by decide), h 4 (by decide)]; rfl
  · simp [h1, hy, h 0 (by decide), h 1 (by decide), h 2 (by decide), h 3 (by decide), h 4 (by decide), h 5 (by decide)]; rfl
  · simp [h1, hy, h 0 (by decide), h 1 (by decide), h 2 (by decide), h 3 (by decide), h 4 (by decide), h 5 (by decide), h 6 (by decide)]; rfl
  · simp [h1, hy, h 0 (by decide), h 1 (by decide), h 2 (by decide), h 3 (by decide), h 4 (by decide), h 5 (by decide), h 6 (by decide), h 7 (by decide)]; rfl
/-- the MARK behind a line; FAULT, place, told once; the TOKEN; the draft -/
def cMk (f : Nat → Int32) (len : Nat) (b : Int32 × Int32) (to : Int32) (t : Int32 × Nat × Nat × Int32) (d : (Nat → Nat) × (Nat → Int32) × (Nat → Nat → Int32)) : (Int32 × Int32 × Int32) × (Int32 × Nat × Nat × Int32) × (Nat → Nat) × (Nat → Int32) × (Nat → Nat → Int32) :=
  (((cTM f len b.1 b.2 t.1 t.2.1 t.2.2.1 t.2.2.2).1.1, (cTM f len b.1 b.2 t.1 t.2.1 t.2.2.1 t.2.2.2).1.2, to), (cTM f len b.1 b.2 t.1 t.2.1 t.2.2.1 t.2.2.2).2, d)
/-- a line whose NAME may be taken, behind the NAME -/
def cTLn (f : Nat → Int32) (len : Nat) (ln : Int32) (ck : Int32 × Int32 × Int32) (t : Int32 × Nat × Nat × Int32) (d : (Nat → Nat) × (Nat → Int32) × (Nat → Nat → Int32)) : (Int32 × Int32 × Int32) × (Int32 × Nat × Nat × Int32) × (Nat → Nat) × (Nat → Int32) × (Nat → Nat → Int32) :=
  if ln = 4 then cMk f len (cTC f len (d.2.2 0) ck.1 ck.2.1 t.1 t.2.1 t.2.2.1 t.2.2.2).2.2.1 ck.2.2 (cTC f len (d.2.2 0) ck.1 ck.2.1 t.1 t.2.1 t.2.2.1 t.2.2.2).2.2.2 ((fun j => ([(cTC f len (d.2.2 0) ck.1 ck.2.1 t.1 t.2.1 t.2.2.1 t.2.2.2).1, d.1 1, d.1 2, d.1 3, d.1 4] : List (Nat)).getD j 0), d.2.1, (fun j => ([(cTC f len (d.2.2 0) ck.1 ck.2.1 t.1 t.2.1 t.2.2.1 t.2.2.2).2.1, d.2.2 1, d.2.2 2, d.2.2 3, d.2.2 4, d.2.2 5, d.2.2 6] : List (Nat → Int32)).getD j hsz))
  else if ln = 5 then cMk f len (cTN f len ck.1 ck.2.1 t.1 t.2.1 t.2.2.1 t.2.2.2 0 9 (-4)).2.1 ck.2.2 (cTN f len ck.1 ck.2.1 t.1 t.2.1 t.2.2.1 t.2.2.2 0 9 (-4)).2.2 (d.1, (fun j => ([(cTN f len ck.1 ck.2.1 t.1 t.2.1 t.2.2.1 t.2.2.2 0 9 (-4)).1, d.2.1 1, d.2.1 2] : List (Int32)).getD j 0), d.2.2)
  else if ln = 6 then cMk f len (cTN f len ck.1 ck.2.1 t.1 t.2.1 t.2.2.1 t.2.2.2 0 99 (-4)).2.1 ck.2.2 (cTN f len ck.1 ck.2.1 t.1 t.2.1 t.2.2.1 t.2.2.2 0 99 (-4)).2.2 (d.1, (fun j => ([d.2.1 0, (cTN f len ck.1 ck.2.1 t.1 t.2.1 t.2.2.1 t.2.2.2 0 99 (-4)).1, d.2.1 2] : List (Int32)).getD j 0), d.2.2)
  else if ln = 7 then cMk f len (cTN f len ck.1 ck.2.1 t.1 t.2.1 t.2.2.1 t.2.2.2 2 5 (-4)).2.1 ck.2.2 (cTN f len ck.1 ck.2.1 t.1 t.2.1 t.2.2.1 t.2.2.2 2 5 (-4)).2.2 ((fun j => ([d.1 0, d.1 1, (cTN f len ck.1 ck.2.1 t.1 t.2.1 t.2.2.1 t.2.2.2 2 5 (-4)).1.toNatClampNeg, d.1 3, d.1 4] : List (Nat)).getD j 0), d.2.1, d.2.2)
  else if ln = 8 then cMk f len (cTP f len ck.1 ck.2.1 t.1 t.2.1 t.2.2.1 t.2.2.2).2.2.1 ck.2.2 (cTP f len ck.1 ck.2.1 t.1 t.2.1 t.2.2.1 t.2.2.2).2.2.2 ((fun j => ([d.1 0, d.1 1, d.1 2, d.1 3 + 1, d.1 4] : List (Nat)).getD j 0), d.2.1, (fun j => ([d.2.2 0, d.2.2 1, upd (d.2.2 2) (nI (d.1 3)).toNatClampNeg (cTP f len ck.1 ck.2.1 t.1 t.2.1 t.2.2.1 t.2.2.2).1, upd (d.2.2 3) (nI (d.1 3)).toNatClampNeg (cTP f len ck.1 ck.2.1 t.1 t.2.1 t.2.2.1 t.2.2.2).2.1, d.2.2 4, d.2.2 5, d.2.2 6] : List (Nat → Int32)).getD j hsz))
  else cMk f len (ck.1, ck.2.1) ck.2.2 t ((fun j => ([d.1 0, d.1 1 + 1, d.1 2, d.1 3, d.1 4] : List (Nat)).getD j 0), d.2.1, (fun j => ([d.2.2 0, upd (d.2.2 1) (nI (d.1 1)).toNatClampNeg ln, d.2.2 2, d.2.2 3, d.2.2 4, d.2.2 5, d.2.2 6] : List (Nat → Int32)).getD j hsz))
/-- a line -/
def cTL (f : Nat → Int32) (len : Nat) (ln : Int32) (x : (Int32 × Int32 × Int32) × (Int32 × Nat × Nat × Int32) × (Nat → Nat) × (Nat → Int32) × (Nat → Nat → Int32)) : (Int32 × Int32 × Int32) × (Int32 × Nat × Nat × Int32) × (Nat → Nat) × (Nat → Int32) × (Nat → Nat → Int32) :=
  if (cCN x.1.1 x.1.2.1 x.1.2.2 x.2.1.1 x.2.1.2.1 (x.2.2.1 1) (x.2.2.1 3) ln).1 = 0 then cTLn f len ln (cCN x.1.1 x.1.2.1 x.1.2.2 x.2.1.1 x.2.1.2.1 (x.2.2.1 1) (x.2.2.1 3) ln) (htok f len x.2.1.2.2.1) x.2.2
  else (cCN x.1.1 x.1.2.1 x.1.2.2 x.2.1.1 x.2.1.2.1 (x.2.2.1 1) (x.2.2.1 3) ln, x.2.1, x.2.2)
/-- all lines, n at most -/
def cTA (f : Nat → Int32) (len : Nat) : Nat → Nat → (Int32 × Int32 × Int32) × (Int32 × Nat × Nat × Int32) × (Nat → Nat) × (Nat → Int32) × (Nat → Nat → Int32) → ((Int32 × Int32 × Int32) × (Int32 × Nat × Nat × Int32) × (Nat → Nat) × (Nat → Int32) × (Nat → Nat → Int32)) × Nat
  | 0, li, x => (x, li)
  | n + 1, li, x => if x.1.1 = 0 ∧ ¬ x.2.1.1 = 0 then cTA f len n (li + 1) (cTL f len (cLn f x.2.1.1 x.2.1.2.1 x.2.1.2.2.1) x) else (x, li)
theorem cTA_step {f : Nat → Int32} {len n li : Nat} {x : (Int32 × Int32 × Int32) × (Int32 × Nat × Nat × Int32) × (Nat → Nat) × (Nat → Int32) × (Nat → Nat → Int32)} (h : x.1.1 = 0 ∧ ¬ x.2.1.1 = 0) : cTA f len (n + 1) li x = cTA f len n (li + 1) (cTL f len (cLn f x.2.1.1 x.2.1.2.1 x.2.1.2.2.1) x) := by
  rw [cTA]
  exact if_pos h
theorem cTA_stop {f : Nat → Int32} {len n li : Nat} {x : (Int32 × Int32 × Int32) × (Int32 × Nat × Nat × Int32) × (Nat → Nat) × (Nat → Int32) × (Nat → Nat → Int32)} (h : n = 0 ∨ ¬ (x.1.1 = 0 ∧ ¬ x.2.1.1 = 0)) : cTA f len n li x = (x, li) := by
  cases n with
  | zero => rfl
  | succ n =>
    rw [cTA]
    exact if_neg (h.resolve_left (Nat.succ_ne_zero n))
theorem cCN_8 {fm pl to kd : Int32} {st n1 n3 : Nat} (h : (cCN fm pl to kd st n1 n3 8).1 = 0) : n3 < 8 := by
  rcases Nat.lt_or_ge n3 8 with h9 | h9
  · exact h9
  · rw [cCN, if_neg (by decide), if_pos rfl, if_neg (by omega)] at h
    exact absurd h (cBl_ne (by decide))
theorem cCN_4 {fm pl to kd ln : Int32} {st n1 n3 : Nat} (hl : ln ≤ 3) (h : (cCN fm pl to kd st n1 n3 ln).1 = 0) : n1 < 4 := by
  rcases Nat.lt_or_ge n1 4 with h9 | h9
  · exact h9
  · by_cases h4 : ln = -4
    · rw [cCN, if_pos h4] at h
      exact absurd h (cBl_ne (by decide))
    · rw [cCN, if_neg h4, if_neg (by rintro rfl; exact absurd hl (by decide)), if_pos hl, if_neg (by omega)] at h
      exact absurd h (cBl_ne (by decide))

set_option maxHeartbeats 4000000 in
set_option maxRecDepth 100000 in
theorem gf_lineHere (l : Launch) (D : va_G) (k : Nat → ClassId) (sz : Nat) (ee : Nat) (ee_tape : Nat) (ee_draft : Nat) (ee_to : Int32) (ee_fm : Int32) (ee_pl : Int32) (a_bytes : Nat) (a_len : Nat) (a_kd : Int32) (a_st : Nat) (a_be : Nat) (a_va : Int32) (a_f : Nat → Int32) (K : (Nat → Nat) × (Nat → Nat)) (hl160 : a_len ≤ 160) (hsb0 : a_st ≤ a_be) (hbl0 : a_be ≤ a_len) : MIS l yX5_lineHere wsX5_lineHere ({ frames := 5, cells := 0, slots := 0, locals := 107 }) D k K [.ref ee] [(ee, .inr (4, [.ref ee_tape, .ref ee_draft, .int ee_to, .int ee_fm, .int ee_pl])), (ee_tape, .inr (3, [.ref a_bytes, .int (nI a_len), .int a_kd, .int (nI a_st), .int (nI a_be), .int a_va])), (a_bytes, .inl (k 0, 160, .inl (a_f)))] sz (fun (r : Int32) (u : Unit) => (r = -4 ∨ r = 0 ∨ r = 1 ∨ r = 2 ∨ r = 3 ∨ r = 4 ∨ r = 5 ∨ r = 6 ∨ r = 7 ∨ r = 8) ∧ r = cLn a_f a_kd a_st a_be) (fun (u : Unit) => [(ee, .inr (4, [.ref ee_tape, .ref ee_draft, .int ee_to, .int ee_fm, .int ee_pl])), (ee_tape, .inr (3, [.ref a_bytes, .int (nI a_len), .int a_kd, .int (nI a_st), .int (nI a_be), .int a_va])), (a_bytes, .inl (k 0, 160, .inl (a_f)))]) := by
  refine Met.ofW (cc := cX5_lineHere) (maxL := 2) (ret := (some .int)) (by decide) rfl ?_
  intro p e s m args below meth c s₁ B hml hv
  obtain ⟨rfl, ⟨hsz, hP, hK, hD0, hN⟩, hZ⟩ := hv
  have hx := B.exec
  have hb := B.bytes
  have hr := B.returns
  have hlocks := B.notSynchronized
  have hts := atoms_spec (ws := wsX5_lineHere) B.pre
  have hown : s.vm.findClass RX5 = some m.cls := findClass_of_methodNamed B.named
  have hiX4 : ∀ w ∈ u_ws RX4 TX4 6, w ∈ wsX5_lineHere := by decide +kernel
  have hiX5 : ∀ w ∈ u_ws RX5 TX5 5, w ∈ wsX5_lineHere := by decide +kernel
  have fl12 := hts (.fieldLink RX5 12 "HalfScales$Teller" "tape" "LHalfScales$Tape;") (by decide +kernel)
  have fl41 := hts (.fieldLink RX5 41 "HalfScales$Tape" "kind" "I") (by decide +kernel)
  subst hsz
  have hD := hD0.self (sz := s.heap.size)
  generalize hAe : va_A [(ee, .inr (4, [.ref ee_tape, .ref ee_draft, .int ee_to, .int ee_fm, .int ee_pl])), (ee_tape, .inr (3, [.ref a_bytes, .int (nI a_len), .int a_kd, .int (nI a_st), .int (nI a_be), .int a_va])), (a_bytes, .inl (k 0, 160, .inl (a_f)))] s.heap.size = A at hD hZ ⊢
  have hA : ∀ q : Nat, s.heap.size ≤ q → A q := fun q h => by rw [← hAe]; exact Or.inr h
  have hS : va_S A s.heap s.heap [] := va_S.rf
  have hl := lv_entry ([.ref ee]) (n := 2) (Nat.le_of_ble_eq_true rfl)
  rw [lg_entry_eq]
  generalize (lg_sl ([.ref ee]) ++ List.replicate (2 - (lg_sl ([.ref ee])).length) Slot.unset).toArray = ls at hl ⊢
  have hl : lv_has ls 2 [(0, .ref ee)] := hl
  have hP : va_P D vwCl [(ee, .inr (4, [.ref ee_tape, .ref ee_draft, .int ee_to, .int ee_fm, .int ee_pl])), (ee_tape, .inr (3, [.ref a_bytes, .int (nI a_len), .int a_kd, .int (nI a_st), .int (nI a_be), .int a_va])), (a_bytes, .inl (k 0, 160, .inl (a_f)))] s.heap := hP
  refine lv_aload_n hx hb dX5_lineHere_0 rfl (lv_at hl 0 rfl) ?_
  refine va_get (D := D) (ci := 4) (v := .ref ee_tape) (C := RX5) (T := TX5) (N := 5) hx hb hts hiX5 hown hK hP 0 rfl rfl 0 (by decide) fl12 (fun _ h9 => h9) rfl dX5_lineHere_1 ?_
  refine va_get (D := D) (ci := 3) (v := .int a_kd) (C := RX4) (T := TX4) (N := 6) hx hb hts hiX4 hown hK hP 1 rfl rfl 2 (by decide) fl41 (fun _ h9 => h9) rfl dX5_lineHere_4 ?_
  refine lv_iconst (v := 1) hx hb dX5_lineHere_7 (by decide) ?_
  refine lv_icmp_eq (tgt := 14) hx hb dX5_lineHere_8 (by decide) (fun c_1 => ?_) (fun c_1 => ?_)
  · have hkd1 := c_1
    refine lv_iconst (v := 0) hx hb dX5_lineHere_14 (by decide) ?_
    refine lv_istore_n (lv' := [(1, .int 0), (0, .ref ee)]) hx hb dX5_lineHere_15 rfl hl (by decide) rfl (fun ls hl => ?_)
    refine hs_while (σ := Nat) (fun x => x ≤ 9 ∧ ∀ v, v < x → A_word a_f a_st a_be v = false) (fun x => 9 - x) (fun x => [(ee, .inr (4, [.ref ee_tape, .ref ee_draft, .int ee_to, .int ee_fm, .int ee_pl])), (ee_tape, .inr (3, [.ref a_bytes, .int (nI a_len), .int a_kd, .int (nI a_st), .int (nI a_be), .int a_va])), (a_bytes, .inl (k 0, 160, .inl (a_f)))]) (fun x => [(1, .int (nI (x))), (0, .ref ee)]) ?_ (0) ?_ hP hD hS hl
    · intro x hI ih16 H locs ls hP hD hS hl
      obtain ⟨x1, rfl⟩ : ∃ z, z = x := ⟨_, rfl⟩
      try dsimp only at hI
      have hP : va_P D vwCl [(ee, .inr (4, [.ref ee_tape, .ref ee_draft, .int ee_to, .int ee_fm, .int ee_pl])), (ee_tape, .inr (3, [.ref a_bytes, .int (nI a_len), .int a_kd, .int (nI a_st), .int (nI a_be), .int a_va])), (a_bytes, .inl (k 0, 160, .inl (a_f)))] H := hP
      have hD : va_D A [(ee, .inr (4, [.ref ee_tape, .ref ee_draft, .int ee_to, .int ee_fm, .int ee_pl])), (ee_tape, .inr (3, [.ref a_bytes, .int (nI a_len), .int a_kd, .int (nI a_st), .int (nI a_be), .int a_va])), (a_bytes, .inl (k 0, 160, .inl (a_f)))] := hD
      have hl : lv_has ls 2 [(1, .int (nI x1)), (0, .ref ee)] := hl
      refine lv_iload_n hx hb dX5_lineHere_16 rfl (lv_at hl 0 rfl) ?_
      refine lv_bipush (v := 9) hx hb dX5_lineHere_17 (by decide) ?_
      refine lv_icmp_ge (tgt := 44) hx hb dX5_lineHere_19 (by decide) (fun c_2 => ?_) (fun c_2 => ?_)
      · have nc_2 : 9 ≤ x1 := (nI_leI (a := 9) (b := x1) (by omega) (by omega)).mp c_2
        refine lv_bipush (v := (-4)) hx hb dX5_lineHere_44 (by decide) ?_
        exact hs_iret hx hb hr hlocks hK hP hD hS () [0, 1, 2] rfl (by decide) dX5_lineHere_46 (⟨Or.inl rfl, (cLn_none (fun w hw => hI.2 w (by omega))).symm⟩)
      · have nc_2 : ¬ 9 ≤ x1 := fun hq9 => c_2 ((nI_leI (a := 9) (b := x1) (by omega) (by omega)).mpr hq9)
        refine lv_aload_n hx hb dX5_lineHere_22 rfl (lv_at hl 1 rfl) ?_
        refine va_get (D := D) (ci := 4) (v := .ref ee_tape) (C := RX5) (T := TX5) (N := 5) hx hb hts hiX5 hown hK hP 0 rfl rfl 0 (by decide) fl12 (fun _ h9 => h9) rfl dX5_lineHere_23 ?_
        refine lv_iload_n hx hb dX5_lineHere_26 rfl (lv_at hl 0 rfl) ?_
        refine hs_pe (va_runS (As := [.int (nI x1)]) (rest := [.ref ee_tape]) ⟨hx, hb, hml, hown, hts⟩ (g_wordOf l D k _ K (nI x1) (hs_nine (by omega))) (va_cwS 1 hts gX5_lineHere_X5_wordOf rfl rfl rfl (by decide +kernel) ⟨Nat.le_of_ble_eq_true rfl, Nat.le_of_ble_eq_true rfl⟩) (hs_preS2 hK hN (hs_subP (w := []) hP [] rfl) (hD.sub (ws' := []) [] (by decide) rfl) hZ hS (va_free (wc := []) hD hS hA [] rfl)) rfl rfl hl.1 rfl (lv_room (Nat.le_of_ble_eq_true rfl)) dX5_lineHere_27 ⟨Nat.le_of_ble_eq_true rfl, Nat.le_of_ble_eq_true rfl⟩) hP hD hS hA (fun r_3 u_5 H locs hw_4 hP hS => ?_)
        refine W.eq (g2 := F0 m 30 ls (.ref (K.1 x1) :: .ref ee_tape :: [])) (by rw [hw_4]; rw [nI_clamp (by omega)]; rfl) ?_
        refine hs_ci (va_runV (As := [.ref (K.1 x1)]) (rest := []) ⟨hx, hb, hml, hown, hts⟩ (g_isWord l D k _ ee_tape a_bytes a_len a_kd a_st a_be a_va a_f K x1 (by omega) (by omega) (by omega)) (cwV 1 hts gX5_lineHere_X4_isWord rfl rfl rfl (by decide +kernel) ⟨Nat.le_of_ble_eq_true rfl, Nat.le_of_ble_eq_true rfl⟩) (hs_preV2 hK hN (hs_subP (w := [(ee_tape, .inr (3, [.ref a_bytes, .int (nI a_len), .int a_kd, .int (nI a_st), .int (nI a_be), .int a_va])), (a_bytes, .inl (k 0, 160, .inl (a_f)))]) hP [1, 2] rfl) (hD.sub (ws' := [(ee_tape, .inr (3, [.ref a_bytes, .int (nI a_len), .int a_kd, .int (nI a_st), .int (nI a_be), .int a_va])), (a_bytes, .inl (k 0, 160, .inl (a_f)))]) [1, 2] (by decide) rfl) hZ hS (va_free (wc := [(ee_tape, .inr (3, [.ref a_bytes, .int (nI a_len), .int a_kd, .int (nI a_st), .int (nI a_be), .int a_va])), (a_bytes, .inl (k 0, 160, .inl (a_f)))]) hD hS hA [1, 2] rfl) (ci := 3) (q0 := 0) rfl rfl) rfl rfl hl.1 rfl (lv_room (Nat.le_of_ble_eq_true rfl)) dX5_lineHere_30 ⟨Nat.le_of_ble_eq_true rfl, Nat.le_of_ble_eq_true rfl⟩) hP hD hS hA [1, 2] [0] [(ee, .inr (4, [.ref ee_tape, .ref ee_draft, .int ee_to, .int ee_fm, .int ee_pl]))] rfl rfl (by decide) (by decide) [0, 1, 2] (fun u_8 => [(ee, .inr (4, [.ref ee_tape, .ref ee_draft, .int ee_to, .int ee_fm, .int ee_pl])), (ee_tape, .inr (3, [.ref a_bytes, .int (nI a_len), .int a_kd, .int (nI a_st), .int (nI a_be), .int a_va])), (a_bytes, .inl (k 0, 160, .inl (a_f)))]) (fun _ => rfl) (by decide) (fun r_6 u_8 H locs hw_7 hP hD hS => ?_)
        have hP : va_P D vwCl [(ee, .inr (4, [.ref ee_tape, .ref ee_draft, .int ee_to, .int ee_fm, .int ee_pl])), (ee_tape, .inr (3, [.ref a_bytes, .int (nI a_len), .int a_kd, .int (nI a_st), .int (nI a_be), .int a_va])), (a_bytes, .inl (k 0, 160, .inl (a_f)))] H := hP
        have hD : va_D A [(ee, .inr (4, [.ref ee_tape, .ref ee_draft, .int ee_to, .int ee_fm, .int ee_pl])), (ee_tape, .inr (3, [.ref a_bytes, .int (nI a_len), .int a_kd, .int (nI a_st), .int (nI a_be), .int a_va])), (a_bytes, .inl (k 0, 160, .inl (a_f)))] := hD
        refine hs_topi (hsb (A_word a_f a_st a_be x1)) hw_7 ?_
        refine lv_if_eq (tgt := 38) hx hb dX5_lineHere_33 (by decide) (fun c_9 => ?_) (fun c_9 => ?_)
        · refine lv_iinc (v := nI (x1 + 1)) (lv' := [(1, .int (nI (x1 + 1))), (0, .ref ee)]) hx hb dX5_lineHere_38 hl (k := 0) rfl (nI_add (x1) 1) (by decide) rfl (fun ls hl => ?_)
          refine lv_goto (tgt := 16) hx hb dX5_lineHere_41 (by decide) ?_
          exact ih16 (x1 + 1) (by (try dsimp only); exact ⟨by omega, fun v hv => if e9 : v = x1 then (by subst e9; exact hs_n0 c_9) else hI.2 v (by omega)⟩) (by (try dsimp only); omega) _ _ _ hP hD hS (lv_sub hl [0, 1] rfl)
        · refine lv_iload_n hx hb dX5_lineHere_36 rfl (lv_at hl 0 rfl) ?_
          exact hs_iret hx hb hr hlocks hK hP hD hS () [0, 1, 2] rfl (by decide) dX5_lineHere_37 (⟨Or.inr (hs_nine (by omega)), (cLn_at hkd1 (by omega) hI.2 (hs_nb c_9)).symm⟩)
    · (try dsimp only); exact ⟨by omega, fun v hv => absurd hv (Nat.not_lt_zero v)⟩
  · refine lv_bipush (v := (-4)) hx hb dX5_lineHere_11 (by decide) ?_
    exact hs_iret hx hb hr hlocks hK hP hD hS () [0, 1, 2] rfl (by decide) dX5_lineHere_13 (⟨Or.inl rfl, (cLn_no c_1).symm⟩)
