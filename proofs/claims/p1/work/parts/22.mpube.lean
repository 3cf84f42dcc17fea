set_option maxHeartbeats 4000000 in
set_option maxRecDepth 100000 in
theorem q_read (l : Launch) (D : va_G) (k : Nat → ClassId) (sz : Nat) (mo : Nat) (mo_st : Nat) (mo_at : Nat) (mo_isKept : Nat) (mo_draft : Nat) (mo_tape : Nat) (mo_row : Nat) (mo_before : Nat) (mo_lanes : Nat) (mo_sizes : Nat) (mo_cells : Nat) (mo_had : Nat) (i : Int32) (v : Int32) (f : Int32) (n : Int32)  : MI l yX8_read wsX8_read ({ frames := 2, cells := 0, slots := 0, locals := 46 }) D k [.ref mo, .int i, .int v, .int f, .int n] [(mo, .inr (7, [.ref mo_st, .ref mo_at, .ref mo_isKept, .int 0, .int 2, .ref mo_draft, .int 0, .int 2, .int 0, .int (-4), .ref mo_tape, .int 0, .int 0, .int 0, .int 0, .int 0, .int 0, .int 0, .ref mo_row, .int 0, .int 0, .int 0, .int 0, .ref mo_before, .long 0, .long 0, .long 0, .ref mo_lanes, .ref mo_sizes, .ref mo_cells, .int 0, .ref mo_had])), (mo_st, .inl (k 0, 132, .inl (hst))), (mo_lanes, .inl (k 0, 4, .inl (hsl))), (mo_had, .inl (k 0, 44, .inl (hsz)))] sz (fun (r : Int32) (u : Unit) => r = A_read i v f n) (fun (u : Unit) => []) := by
  refine Met.ofW (cc := cX8_read) (maxL := 11) (ret := (some .int)) (by decide) rfl ?_
  intro p e s m args below meth c s₁ B hml hv
  obtain ⟨rfl, hsz, hP, hK, hD0, hN⟩ := hv
  have hx := B.exec
  have hb := B.bytes
  have hr := B.returns
  have hlocks := B.notSynchronized
  have hts := atoms_spec (ws := wsX8_read) B.pre
  have hown : s.vm.findClass RX8 = some m.cls := findClass_of_methodNamed B.named
  have hiX8 : ∀ w ∈ u_ws RX8 TX8 32, w ∈ wsX8_read := by decide +kernel
  have fl41 := hts (.fieldLink RX8 41 "HalfScalesModel" "had" "[I") (by decide +kernel)
  have fl7 := hts (.fieldLink RX8 7 "HalfScalesModel" "st" "[I") (by decide +kernel)
  have fl289 := hts (.fieldLink RX8 289 "HalfScalesModel" "torn" "I") (by decide +kernel)
  have fl32 := hts (.fieldLink RX8 32 "HalfScalesModel" "lanes" "[I") (by decide +kernel)
  have kl284 := hts (.constantLong RX8 284 (20)) (by decide +kernel)
  subst hsz
  have hD := hD0.self (sz := s.heap.size)
  generalize hAe : va_A [(mo, .inr (7, [.ref mo_st, .ref mo_at, .ref mo_isKept, .int 0, .int 2, .ref mo_draft, .int 0, .int 2, .int 0, .int (-4), .ref mo_tape, .int 0, .int 0, .int 0, .int 0, .int 0, .int 0, .int 0, .ref mo_row, .int 0, .int 0, .int 0, .int 0, .ref mo_before, .long 0, .long 0, .long 0, .ref mo_lanes, .ref mo_sizes, .ref mo_cells, .int 0, .ref mo_had])), (mo_st, .inl (k 0, 132, .inl (hst))), (mo_lanes, .inl (k 0, 4, .inl (hsl))), (mo_had, .inl (k 0, 44, .inl (hsz)))] s.heap.size = A at hD ⊢
  have hA : ∀ q : Nat, s.heap.size ≤ q → A q := fun q h => by rw [← hAe]; exact Or.inr h
  have hS : va_S A s.heap s.heap [] := va_S.rf
  have hl := lv_entry ([.ref mo, .int i, .int v, .int f, .int n]) (n := 11) (Nat.le_of_ble_eq_true rfl)
  rw [lg_entry_eq]
  generalize (lg_sl ([.ref mo, .int i, .int v, .int f, .int n]) ++ List.replicate (11 - (lg_sl ([.ref mo, .int i, .int v, .int f, .int n])).length) Slot.unset).toArray = ls at hl ⊢
  have hl : lv_has ls 11 [(0, .ref mo), (1, .int i), (2, .int v), (3, .int f), (4, .int n)] := hl
  have hP : va_P D vwCl [(mo, .inr (7, [.ref mo_st, .ref mo_at, .ref mo_isKept, .int 0, .int 2, .ref mo_draft, .int 0, .int 2, .int 0, .int (-4), .ref mo_tape, .int 0, .int 0, .int 0, .int 0, .int 0, .int 0, .int 0, .ref mo_row, .int 0, .int 0, .int 0, .int 0, .ref mo_before, .long 0, .long 0, .long 0, .ref mo_lanes, .ref mo_sizes, .ref mo_cells, .int 0, .ref mo_had])), (mo_st, .inl (k 0, 132, .inl (hst))), (mo_lanes, .inl (k 0, 4, .inl (hsl))), (mo_had, .inl (k 0, 44, .inl (hsz)))] s.heap := hP
  refine lv_iload_n hx hb dX8_read_0 rfl (lv_at hl 1 rfl) ?_
  refine lv_iload_n hx hb dX8_read_1 rfl (lv_at hl 2 rfl) ?_
  refine hs_pi (va_runS (As := [.int i, .int v]) (rest := []) ⟨hx, hb, hml, hown, hts⟩ (m_isSheet l D k _ i v) (va_cwS 2 hts gX8_read_X8_isSheet rfl rfl rfl (by decide +kernel) ⟨Nat.le_of_ble_eq_true rfl, Nat.le_of_ble_eq_true rfl⟩) (hs_preS hK hN (hs_subP (w := []) hP [] rfl) (hD.sub (ws' := []) [] (by decide) rfl)) rfl rfl hl.1 rfl (lv_room (Nat.le_of_ble_eq_true rfl)) dX8_read_2 ⟨Nat.le_of_ble_eq_true rfl, Nat.le_of_ble_eq_true rfl⟩) hP hD hS hA (fun r_1 u_3 H locs hw_2 hP hS => ?_)
  refine hs_topi (hsb (hsin i 0 3 && hsin v 0 2)) hw_2 ?_
  refine lv_if_eq (tgt := 21) hx hb dX8_read_5 (by decide) (fun c_4 => ?_) (fun c_4 => ?_)
  · refine lv_iconst (v := (-1)) hx hb dX8_read_21 (by decide) ?_
    exact hs_iret hx hb hr hlocks hK hP hD hS () [] rfl (by decide) dX8_read_22 (by first | rfl | decide | (simp only [hsb_0, hsb_1] at c_4; simp [A_read, c_4]; done) | (simp [A_read, c_4]; done))
  · rcases hs_v03 <| hs_and1 (hs_nb c_4) with rfl | rfl | rfl | rfl
    · refine lv_iload hx hb dX8_read_8 (lv_at hl 4 rfl) ?_
      refine lv_i2l hx hb dX8_read_10 rfl ?_
      refine lv_lconst (v := 0) hx hb dX8_read_11 (by decide) ?_
      refine lv_ldc2 hx hb hown kl284 dX8_read_12 ?_
      refine hs_pi (va_runS (As := [.long (((n) : Int32).toInt64), .long 0, .long 20]) (rest := []) ⟨hx, hb, hml, hown, hts⟩ (m_in l D k _ n 0 20) (va_cwS 3 hts gX8_read_X8_in rfl rfl rfl (by decide +kernel) ⟨Nat.le_of_ble_eq_true rfl, Nat.le_of_ble_eq_true rfl⟩) (hs_preS hK hN (hs_subP (w := []) hP [] rfl) (hD.sub (ws' := []) [] (by decide) rfl)) rfl rfl hl.1 rfl (lv_room (Nat.le_of_ble_eq_true rfl)) dX8_read_15 ⟨Nat.le_of_ble_eq_true rfl, Nat.le_of_ble_eq_true rfl⟩) hP hD hS hA (fun r_5 u_7 H locs hw_6 hP hS => ?_)
      refine hs_topi (hsb (hsin n 0 20)) hw_6 ?_
      refine lv_if_ne (tgt := 23) hx hb dX8_read_18 (by decide) (fun c_8 => ?_) (fun c_8 => ?_)
      · refine lv_iconst (v := 0) hx hb dX8_read_23 (by decide) ?_
        refine lv_istore (lv' := [(5, .int 0), (0, .ref mo), (1, .int 0), (2, .int v), (3, .int f), (4, .int n)]) hx hb dX8_read_24 hl (by decide) rfl (fun ls hl => ?_)
        refine hs_for 44 (fun i => [(mo, .inr (7, [.ref mo_st, .ref mo_at, .ref mo_isKept, .int 0, .int 2, .ref mo_draft, .int 0, .int 2, .int 0, .int (-4), .ref mo_tape, .int 0, .int 0, .int 0, .int 0, .int 0, .int 0, .int 0, .ref mo_row, .int 0, .int 0, .int 0, .int 0, .ref mo_before, .long 0, .long 0, .long 0, .ref mo_lanes, .ref mo_sizes, .ref mo_cells, .int 0, .ref mo_had])), (mo_st, .inl (k 0, 132, .inl (hst))), (mo_lanes, .inl (k 0, 4, .inl (hsl))), (mo_had, .inl (k 0, 44, .inl (hsfill hst hsz i)))]) (fun i => [(5, .int (nI i)), (0, .ref mo), (1, .int 0), (2, .int v), (3, .int f), (4, .int n)]) ?_ ?_ (by rw [hsfill_0]; exact hP) (by rw [hsfill_0]; exact hD) hS hl
        · intro i hi ih H locs ls hP hD hS hl
          refine lv_iload hx hb dX8_read_26 (lv_at hl 0 rfl) ?_
          refine lv_bipush (v := 44) hx hb dX8_read_28 (by decide) ?_
          refine lv_icmp_ge (tgt := 53) hx hb dX8_read_30 (by decide) (fun c_9 => absurd c_9 (nI_ge (show i < 44 by omega) (by decide))) (fun c_9 => ?_)
          refine lv_aload_n hx hb dX8_read_33 rfl (lv_at hl 1 rfl) ?_
          refine va_get (D := D) (ci := 7) (v := .ref mo_had) (C := RX8) (T := TX8) (N := 32) hx hb hts hiX8 hown hK hP 0 rfl rfl 31 (by decide) fl41 (fun _ h9 => h9) rfl dX8_read_34 ?_
          refine lv_iload hx hb dX8_read_37 (lv_at hl 0 rfl) ?_
          refine lv_aload_n hx hb dX8_read_39 rfl (lv_at hl 1 rfl) ?_
          refine va_get (D := D) (ci := 7) (v := .ref mo_st) (C := RX8) (T := TX8) (N := 32) hx hb hts hiX8 hown hK hP 0 rfl rfl 0 (by decide) fl7 (fun _ h9 => h9) rfl dX8_read_40 ?_
          refine lv_iload hx hb dX8_read_43 (lv_at hl 0 rfl) ?_
          refine va_iald hx hb hK hP 1 0 rfl rfl (vp_in_nI (show i < 132 by omega) (by decide)) dX8_read_45 ?_
          refine va_iast hx hb hK hP hD hS 3 0 rfl rfl (vp_in_nI (show i < 44 by omega) (by decide)) dX8_read_46 (fun H locs hP hD hS => ?_)
          have hE : upd (hsfill hst hsz i) ((nI i).toNatClampNeg) (hst (nI i).toNatClampNeg) = hsfill hst hsz (i + 1) := by rw [nI_clamp (show i < 2 ^ 31 by omega)]; exact hsfill_s hst hsz i
          have hP : va_P D vwCl [(mo, .inr (7, [.ref mo_st, .ref mo_at, .ref mo_isKept, .int 0, .int 2, .ref mo_draft, .int 0, .int 2, .int 0, .int (-4), .ref mo_tape, .int 0, .int 0, .int 0, .int 0, .int 0, .int 0, .int 0, .ref mo_row, .int 0, .int 0, .int 0, .int 0, .ref mo_before, .long 0, .long 0, .long 0, .ref mo_lanes, .ref mo_sizes, .ref mo_cells, .int 0, .ref mo_had])), (mo_st, .inl (k 0, 132, .inl (hst))), (mo_lanes, .inl (k 0, 4, .inl (hsl))), (mo_had, .inl (k 0, 44, .inl (upd (hsfill hst hsz i) ((nI i).toNatClampNeg) (hst (nI i).toNatClampNeg))))] H := hP
          have hD : va_D A [(mo, .inr (7, [.ref mo_st, .ref mo_at, .ref mo_isKept, .int 0, .int 2, .ref mo_draft, .int 0, .int 2, .int 0, .int (-4), .ref mo_tape, .int 0, .int 0, .int 0, .int 0, .int 0, .int 0, .int 0, .ref mo_row, .int 0, .int 0, .int 0, .int 0, .ref mo_before, .long 0, .long 0, .long 0, .ref mo_lanes, .ref mo_sizes, .ref mo_cells, .int 0, .ref mo_had])), (mo_st, .inl (k 0, 132, .inl (hst))), (mo_lanes, .inl (k 0, 4, .inl (hsl))), (mo_had, .inl (k 0, 44, .inl (upd (hsfill hst hsz i) ((nI i).toNatClampNeg) (hst (nI i).toNatClampNeg))))] := hD
          rw [hE] at hP hD
          refine lv_iinc (v := nI (i + 1)) (lv' := [(5, .int (nI (i + 1))), (0, .ref mo), (1, .int 0), (2, .int v), (3, .int f), (4, .int n)]) hx hb dX8_read_47 hl (k := 0) rfl (by rw [nI_succ]; rfl) (by decide) rfl (fun ls hl => ?_)
          refine lv_goto (tgt := 26) hx hb dX8_read_50 (by decide) ?_
          exact ih _ _ _ hP hD hS (lv_sub hl [0, 1, 2, 3, 4, 5] rfl)
        · intro H locs ls hP hD hS hl
          have hE : hsfill hst hsz 44 = hst := hsfill_st
          have hP : va_P D vwCl [(mo, .inr (7, [.ref mo_st, .ref mo_at, .ref mo_isKept, .int 0, .int 2, .ref mo_draft, .int 0, .int 2, .int 0, .int (-4), .ref mo_tape, .int 0, .int 0, .int 0, .int 0, .int 0, .int 0, .int 0, .ref mo_row, .int 0, .int 0, .int 0, .int 0, .ref mo_before, .long 0, .long 0, .long 0, .ref mo_lanes, .ref mo_sizes, .ref mo_cells, .int 0, .ref mo_had])), (mo_st, .inl (k 0, 132, .inl (hst))), (mo_lanes, .inl (k 0, 4, .inl (hsl))), (mo_had, .inl (k 0, 44, .inl (hsfill hst hsz 44)))] H := hP
          have hD : va_D A [(mo, .inr (7, [.ref mo_st, .ref mo_at, .ref mo_isKept, .int 0, .int 2, .ref mo_draft, .int 0, .int 2, .int 0, .int (-4), .ref mo_tape, .int 0, .int 0, .int 0, .int 0, .int 0, .int 0, .int 0, .ref mo_row, .int 0, .int 0, .int 0, .int 0, .ref mo_before, .long 0, .long 0, .long 0, .ref mo_lanes, .ref mo_sizes, .ref mo_cells, .int 0, .ref mo_had])), (mo_st, .inl (k 0, 132, .inl (hst))), (mo_lanes, .inl (k 0, 4, .inl (hsl))), (mo_had, .inl (k 0, 44, .inl (hsfill hst hsz 44)))] := hD
          rw [hE] at hP hD
          refine lv_iload hx hb dX8_read_26 (lv_at hl 0 rfl) ?_
          refine lv_bipush (v := 44) hx hb dX8_read_28 (by decide) ?_
          refine lv_icmp_ge (tgt := 53) hx hb dX8_read_30 (by decide) (fun c_10 => ?_) (fun c_10 => absurd (show (44 : Int32) ≤ nI 44 by decide) c_10)
          refine lv_iconst (v := 0) hx hb dX8_read_53 (by decide) ?_
          refine lv_istore (lv' := [(5, .int 0), (0, .ref mo), (1, .int 0), (2, .int v), (3, .int f), (4, .int n)]) hx hb dX8_read_54 hl (by decide) rfl (fun ls hl => ?_)
          refine lv_iconst (v := 0) hx hb dX8_read_56 (by decide) ?_
          refine lv_istore (lv' := [(6, .int 0), (5, .int 0), (0, .ref mo), (1, .int 0), (2, .int v), (3, .int f), (4, .int n)]) hx hb dX8_read_57 hl (by decide) rfl (fun ls hl => ?_)
          refine lv_iconst (v := 0) hx hb dX8_read_59 (by decide) ?_
          refine lv_istore (lv' := [(7, .int 0), (6, .int 0), (5, .int 0), (0, .ref mo), (1, .int 0), (2, .int v), (3, .int f), (4, .int n)]) hx hb dX8_read_60 hl (by decide) rfl (fun ls hl => ?_)
          refine lv_iload hx hb dX8_read_62 (lv_at hl 0 rfl) ?_
          refine lv_iload hx hb dX8_read_64 (lv_at hl 7 rfl) ?_
          refine lv_icmp_ge (tgt := 250) hx hb dX8_read_66 (by decide) (fun c_11 => ?_) (fun c_11 => ?_)
          · refine lv_aload_n hx hb dX8_read_250 rfl (lv_at hl 3 rfl) ?_
            refine lv_iload hx hb dX8_read_251 (lv_at hl 2 rfl) ?_
            refine va_put (D := D) (ci := 7) (v := .int 0) (ty := .int) (C := RX8) (T := TX8) (N := 32) hx hb hts hiX8 tyX8 tyX8_ok nmX8 hown hK hP hD hS 0 rfl rfl 30 (by decide) fl289 (fun _ h9 => h9) rfl (by decide +kernel) rfl rfl (Nat.le_of_ble_eq_true rfl) dX8_read_253 (fun H locs hP hD hS => ?_)
            have hP : va_P D vwCl [(mo, .inr (7, [.ref mo_st, .ref mo_at, .ref mo_isKept, .int 0, .int 2, .ref mo_draft, .int 0, .int 2, .int 0, .int (-4), .ref mo_tape, .int 0, .int 0, .int 0, .int 0, .int 0, .int 0, .int 0, .ref mo_row, .int 0, .int 0, .int 0, .int 0, .ref mo_before, .long 0, .long 0, .long 0, .ref mo_lanes, .ref mo_sizes, .ref mo_cells, .int 0, .ref mo_had])), (mo_st, .inl (k 0, 132, .inl (hst))), (mo_lanes, .inl (k 0, 4, .inl (hsl))), (mo_had, .inl (k 0, 44, .inl (hst)))] H := hP
            have hD : va_D A [(mo, .inr (7, [.ref mo_st, .ref mo_at, .ref mo_isKept, .int 0, .int 2, .ref mo_draft, .int 0, .int 2, .int 0, .int (-4), .ref mo_tape, .int 0, .int 0, .int 0, .int 0, .int 0, .int 0, .int 0, .ref mo_row, .int 0, .int 0, .int 0, .int 0, .ref mo_before, .long 0, .long 0, .long 0, .ref mo_lanes, .ref mo_sizes, .ref mo_cells, .int 0, .ref mo_had])), (mo_st, .inl (k 0, 132, .inl (hst))), (mo_lanes, .inl (k 0, 4, .inl (hsl))), (mo_had, .inl (k 0, 44, .inl (hst)))] := hD
            refine lv_iload hx hb dX8_read_256 (lv_at hl 1 rfl) ?_
            exact hs_iret hx hb hr hlocks hK hP hD hS () [] rfl (by decide) dX8_read_258 (by first | rfl | decide | (simp only [hsb_0, hsb_1] at c_4 c_8 c_10 c_11; simp [A_read, c_4, c_8, c_10, c_11]; done) | (simp [A_read, c_4, c_8, c_10, c_11]; done))
          · refine lv_iload hx hb dX8_read_69 (lv_at hl 2 rfl) ?_
            refine lv_if_ne (tgt := 250) hx hb dX8_read_71 (by decide) (fun c_12 => absurd c_12 (by decide)) (fun c_12 => ?_)
            refine lv_iconst (v := 0) hx hb dX8_read_74 (by decide) ?_
            refine lv_istore (lv' := [(8, .int 0), (7, .int 0), (6, .int 0), (5, .int 0), (0, .ref mo), (1, .int 0), (2, .int v), (3, .int f), (4, .int n)]) hx hb dX8_read_75 hl (by decide) rfl (fun ls hl => ?_)
            refine lv_iload hx hb dX8_read_77 (lv_at hl 0 rfl) ?_
            refine lv_iconst (v := 2) hx hb dX8_read_79 (by decide) ?_
            refine lv_icmp_ge (tgt := 164) hx hb dX8_read_80 (by decide) (fun c_13 => absurd c_13 (by decide)) (fun c_13 => ?_)
            refine lv_iload hx hb dX8_read_83 (lv_at hl 3 rfl) ?_
            refine lv_if_ne (tgt := 164) hx hb dX8_read_85 (by decide) (fun c_14 => absurd c_14 (by decide)) (fun c_14 => ?_)
            refine lv_iload_n hx hb dX8_read_88 rfl (lv_at hl 7 rfl) ?_
            refine lv_i2l hx hb dX8_read_89 rfl ?_
            refine lv_iconst (v := 2) hx hb dX8_read_90 (by decide) ?_
            refine lv_iload hx hb dX8_read_91 (lv_at hl 1 rfl) ?_
            refine lv_imul hx hb dX8_read_93 ?_
            refine hs_topi 0 (by first | rfl | decide +kernel) ?_
            refine lv_i2l (v := 0) hx hb dX8_read_94 (by decide +kernel) ?_
            refine lv_ladd hx hb dX8_read_95 ?_
            refine lv_iload hx hb dX8_read_96 (lv_at hl 0 rfl) ?_
            refine lv_i2l (v := 0) hx hb dX8_read_98 (by decide +kernel) ?_
            refine lv_ladd hx hb dX8_read_99 ?_
            refine lv_lstore (lv' := [(9, .long (((((f) : Int32).toInt64) + 0) + 0)), (8, .int 0), (7, .int 0), (6, .int 0), (5, .int 0), (0, .ref mo), (1, .int 0), (2, .int v), (3, .int f), (4, .int n)]) hx hb dX8_read_100 hl (by decide) rfl (fun ls hl => ?_)
            refine lv_aload_n hx hb dX8_read_102 rfl (lv_at hl 5 rfl) ?_
            refine va_get (D := D) (ci := 7) (v := .ref mo_lanes) (C := RX8) (T := TX8) (N := 32) hx hb hts hiX8 hown hK hP 0 rfl rfl 27 (by decide) fl32 (fun _ h9 => h9) rfl dX8_read_103 ?_
            refine lv_iload_n hx hb dX8_read_106 rfl (lv_at hl 6 rfl) ?_
            refine va_iald hx hb hK hP 2 0 rfl rfl (hs_in (by decide)) dX8_read_107 ?_
            refine hs_topi (-4) (by first | rfl | decide +kernel) ?_
            refine lv_bipush (v := (-4)) hx hb dX8_read_108 (by decide) ?_
            refine lv_icmp_ne (tgt := 117) hx hb dX8_read_110 (by decide) (fun c_15 => absurd c_15 (by decide)) (fun c_15 => ?_)
            refine lv_iconst (v := 1) hx hb dX8_read_113 (by decide) ?_
            refine lv_goto (tgt := 156) hx hb dX8_read_114 (by decide) ?_
            refine lv_istore (lv' := [(5, .int 1), (9, .long (((((f) : Int32).toInt64) + 0) + 0)), (8, .int 0), (7, .int 0), (6, .int 0), (0, .ref mo), (1, .int 0), (2, .int v), (3, .int f), (4, .int n)]) hx hb dX8_read_156 hl (by decide) rfl (fun ls hl => ?_)
            refine lv_iinc (v := 1) (lv' := [(8, .int 1), (5, .int 1), (9, .long (((((f) : Int32).toInt64) + 0) + 0)), (7, .int 0), (6, .int 0), (0, .ref mo), (1, .int 0), (2, .int v), (3, .int f), (4, .int n)]) hx hb dX8_read_158 hl (k := 2) rfl (by decide) (by decide) rfl (fun ls hl => ?_)
            refine lv_goto (tgt := 77) hx hb dX8_read_161 (by decide) ?_
            refine lv_iload hx hb dX8_read_77 (lv_at hl 0 rfl) ?_
            refine lv_iconst (v := 2) hx hb dX8_read_79 (by decide) ?_
            refine lv_icmp_ge (tgt := 164) hx hb dX8_read_80 (by decide) (fun c_16 => absurd c_16 (by decide)) (fun c_16 => ?_)
            refine lv_iload hx hb dX8_read_83 (lv_at hl 1 rfl) ?_
            refine lv_if_ne (tgt := 164) hx hb dX8_read_85 (by decide) (fun c_17 => ?_) (fun c_17 => absurd c_17 (by decide))
            refine lv_iload hx hb dX8_read_164 (lv_at hl 1 rfl) ?_
            refine lv_if_ne (tgt := 244) hx hb dX8_read_166 (by decide) (fun c_18 => ?_) (fun c_18 => absurd c_18 (by decide))
            refine lv_iinc (v := 1) (lv' := [(7, .int 1), (8, .int 1), (5, .int 1), (9, .long (((((f) : Int32).toInt64) + 0) + 0)), (6, .int 0), (0, .ref mo), (1, .int 0), (2, .int v), (3, .int f), (4, .int n)]) hx hb dX8_read_244 hl (k := 3) rfl (by decide) (by decide) rfl (fun ls hl => ?_)
            refine lv_goto (tgt := 62) hx hb dX8_read_247 (by decide) ?_
            refine lv_iload hx hb dX8_read_62 (lv_at hl 0 rfl) ?_
            refine lv_iload hx hb dX8_read_64 (lv_at hl 9 rfl) ?_
            refine lv_icmp_ge (tgt := 250) hx hb dX8_read_66 (by decide) (fun c_19 => ?_) (fun c_19 => ?_)
            · refine lv_aload_n hx hb dX8_read_250 rfl (lv_at hl 5 rfl) ?_
              refine lv_iload hx hb dX8_read_251 (lv_at hl 2 rfl) ?_
              refine va_put (D := D) (ci := 7) (v := .int 1) (ty := .int) (C := RX8) (T := TX8) (N := 32) hx hb hts hiX8 tyX8 tyX8_ok nmX8 hown hK hP hD hS 0 rfl rfl 30 (by decide) fl289 (fun _ h9 => h9) rfl (by decide +kernel) rfl rfl (Nat.le_of_ble_eq_true rfl) dX8_read_253 (fun H locs hP hD hS => ?_)
              have hP : va_P D vwCl [(mo, .inr (7, [.ref mo_st, .ref mo_at, .ref mo_isKept, .int 0, .int 2, .ref mo_draft, .int 0, .int 2, .int 0, .int (-4), .ref mo_tape, .int 0, .int 0, .int 0, .int 0, .int 0, .int 0, .int 0, .ref mo_row, .int 0, .int 0, .int 0, .int 0, .ref mo_before, .long 0, .long 0, .long 0, .ref mo_lanes, .ref mo_sizes, .ref mo_cells, .int 1, .ref mo_had])), (mo_st, .inl (k 0, 132, .inl (hst))), (mo_lanes, .inl (k 0, 4, .inl (hsl))), (mo_had, .inl (k 0, 44, .inl (hst)))] H := hP
              have hD : va_D A [(mo, .inr (7, [.ref mo_st, .ref mo_at, .ref mo_isKept, .int 0, .int 2, .ref mo_draft, .int 0, .int 2, .int 0, .int (-4), .ref mo_tape, .int 0, .int 0, .int 0, .int 0, .int 0, .int 0, .int 0, .ref mo_row, .int 0, .int 0, .int 0, .int 0, .ref mo_before, .long 0, .long 0, .long 0, .ref mo_lanes, .ref mo_sizes, .ref mo_cells, .int 1, .ref mo_had])), (mo_st, .inl (k 0, 132, .inl (hst))), (mo_lanes, .inl (k 0, 4, .inl (hsl))), (mo_had, .inl (k 0, 44, .inl (hst)))] := hD
              refine lv_iload hx hb dX8_read_256 (lv_at hl 4 rfl) ?_
              exact hs_iret hx hb hr hlocks hK hP hD hS () [] rfl (by decide) dX8_read_258 (by first | rfl | decide | (simp only [hsb_0, hsb_1] at c_4 c_8 c_10 c_11 c_12 c_13 c_14 c_15 c_16 c_17 c_18 c_19; simp [A_read, c_4, c_8, c_10, c_11, c_12, c_13, c_14, c_15, c_16, c_17, c_18, c_19]; done) | (simp [A_read, c_4, c_8, c_10, c_11, c_12, c_13, c_14, c_15, c_16, c_17, c_18, c_19]; done))
            · refine lv_iload hx hb dX8_read_69 (lv_at hl 2 rfl) ?_
              refine lv_if_ne (tgt := 250) hx hb dX8_read_71 (by decide) (fun c_20 => ?_) (fun c_20 => absurd c_20 (by decide))
              refine lv_aload_n hx hb dX8_read_250 rfl (lv_at hl 5 rfl) ?_
              refine lv_iload hx hb dX8_read_251 (lv_at hl 2 rfl) ?_
              refine va_put (D := D) (ci := 7) (v := .int 1) (ty := .int) (C := RX8) (T := TX8) (N := 32) hx hb hts hiX8 tyX8 tyX8_ok nmX8 hown hK hP hD hS 0 rfl rfl 30 (by decide) fl289 (fun _ h9 => h9) rfl (by decide +kernel) rfl rfl (Nat.le_of_ble_eq_true rfl) dX8_read_253 (fun H locs hP hD hS => ?_)
              have hP : va_P D vwCl [(mo, .inr (7, [.ref mo_st, .ref mo_at, .ref mo_isKept, .int 0, .int 2, .ref mo_draft, .int 0, .int 2, .int 0, .int (-4), .ref mo_tape, .int 0, .int 0, .int 0, .int 0, .int 0, .int 0, .int 0, .ref mo_row, .int 0, .int 0, .int 0, .int 0, .ref mo_before, .long 0, .long 0, .long 0, .ref mo_lanes, .ref mo_sizes, .ref mo_cells, .int 1, .ref mo_had])), (mo_st, .inl (k 0, 132, .inl (hst))), (mo_lanes, .inl (k 0, 4, .inl (hsl))), (mo_had, .inl (k 0, 44, .inl (hst)))] H := hP
              have hD : va_D A [(mo, .inr (7, [.ref mo_st, .ref mo_at, .ref mo_isKept, .int 0, .int 2, .ref mo_draft, .int 0, .int 2, .int 0, .int (-4), .ref mo_tape, .int 0, .int 0, .int 0, .int 0, .int 0, .int 0, .int 0, .ref mo_row, .int 0, .int 0, .int 0, .int 0, .ref mo_before, .long 0, .long 0, .long 0, .ref mo_lanes, .ref mo_sizes, .ref mo_cells, .int 1, .ref mo_had])), (mo_st, .inl (k 0, 132, .inl (hst))), (mo_lanes, .inl (k 0, 4, .inl (hsl))), (mo_had, .inl (k 0, 44, .inl (hst)))] := hD
              refine lv_iload hx hb dX8_read_256 (lv_at hl 4 rfl) ?_
              exact hs_iret hx hb hr hlocks hK hP hD hS () [] rfl (by decide) dX8_read_258 (by first | rfl | decide | (simp only [hsb_0, hsb_1] at c_4 c_8 c_10 c_11 c_12 c_13 c_14 c_15 c_16 c_17 c_18 c_19 c_20; simp [A_read, c_4, c_8, c_10, c_11, c_12, c_13, c_14, c_15, c_16, c_17, c_18, c_19, c_20]; done) | (simp [A_read, c_4, c_8, c_10, c_11, c_12, c_13, c_14, c_15, c_16, c_17, c_18, c_19, c_20]; done))
      · refine lv_iconst (v := (-1)) hx hb dX8_read_21 (by decide) ?_
        exact hs_iret hx hb hr hlocks hK hP hD hS () [] rfl (by decide) dX8_read_22 (by first | rfl | decide | (simp only [hsb_0, hsb_1] at c_4 c_8; simp [A_read, c_4, c_8]; done) | (simp [A_read, c_4, c_8]; done))
    · refine lv_iload hx hb dX8_read_8 (lv_at hl 4 rfl) ?_
      refine lv_i2l hx hb dX8_read_10 rfl ?_
      refine lv_lconst (v := 0) hx hb dX8_read_11 (by decide) ?_
      refine lv_ldc2 hx hb hown kl284 dX8_read_12 ?_
      refine hs_pi (va_runS (As := [.long (((n) : Int32).toInt64), .long 0, .long 20]) (rest := []) ⟨hx, hb, hml, hown, hts⟩ (m_in l D k _ n 0 20) (va_cwS 3 hts gX8_read_X8_in rfl rfl rfl (by decide +kernel) ⟨Nat.le_of_ble_eq_true rfl, Nat.le_of_ble_eq_true rfl⟩) (hs_preS hK hN (hs_subP (w := []) hP [] rfl) (hD.sub (ws' := []) [] (by decide) rfl)) rfl rfl hl.1 rfl (lv_room (Nat.le_of_ble_eq_true rfl)) dX8_read_15 ⟨Nat.le_of_ble_eq_true rfl, Nat.le_of_ble_eq_true rfl⟩) hP hD hS hA (fun r_21 u_23 H locs hw_22 hP hS => ?_)
      refine hs_topi (hsb (hsin n 0 20)) hw_22 ?_
      refine lv_if_ne (tgt := 23) hx hb dX8_read_18 (by decide) (fun c_24 => ?_) (fun c_24 => ?_)
      · refine lv_iconst (v := 0) hx hb dX8_read_23 (by decide) ?_
        refine lv_istore (lv' := [(5, .int 0), (0, .ref mo), (1, .int 1), (2, .int v), (3, .int f), (4, .int n)]) hx hb dX8_read_24 hl (by decide) rfl (fun ls hl => ?_)
        refine hs_for 44 (fun i => [(mo, .inr (7, [.ref mo_st, .ref mo_at, .ref mo_isKept, .int 0, .int 2, .ref mo_draft, .int 0, .int 2, .int 0, .int (-4), .ref mo_tape, .int 0, .int 0, .int 0, .int 0, .int 0, .int 0, .int 0, .ref mo_row, .int 0, .int 0, .int 0, .int 0, .ref mo_before, .long 0, .long 0, .long 0, .ref mo_lanes, .ref mo_sizes, .ref mo_cells, .int 0, .ref mo_had])), (mo_st, .inl (k 0, 132, .inl (hst))), (mo_lanes, .inl (k 0, 4, .inl (hsl))), (mo_had, .inl (k 0, 44, .inl (hsfill hst hsz i)))]) (fun i => [(5, .int (nI i)), (0, .ref mo), (1, .int 1), (2, .int v), (3, .int f), (4, .int n)]) ?_ ?_ (by rw [hsfill_0]; exact hP) (by rw [hsfill_0]; exact hD) hS hl
        · intro i hi ih H locs ls hP hD hS hl
          refine lv_iload hx hb dX8_read_26 (lv_at hl 0 rfl) ?_
          refine lv_bipush (v := 44) hx hb dX8_read_28 (by decide) ?_
          refine lv_icmp_ge (tgt := 53) hx hb dX8_read_30 (by decide) (fun c_25 => absurd c_25 (nI_ge (show i < 44 by omega) (by decide))) (fun c_25 => ?_)
          refine lv_aload_n hx hb dX8_read_33 rfl (lv_at hl 1 rfl) ?_
          refine va_get (D := D) (ci := 7) (v := .ref mo_had) (C := RX8) (T := TX8) (N := 32) hx hb hts hiX8 hown hK hP 0 rfl rfl 31 (by decide) fl41 (fun _ h9 => h9) rfl dX8_read_34 ?_
          refine lv_iload hx hb dX8_read_37 (lv_at hl 0 rfl) ?_
          refine lv_aload_n hx hb dX8_read_39 rfl (lv_at hl 1 rfl) ?_
          refine va_get (D := D) (ci := 7) (v := .ref mo_st) (C := RX8) (T := TX8) (N := 32) hx hb hts hiX8 hown hK hP 0 rfl rfl 0 (by decide) fl7 (fun _ h9 => h9) rfl dX8_read_40 ?_
          refine lv_iload hx hb dX8_read_43 (lv_at hl 0 rfl) ?_
          refine va_iald hx hb hK hP 1 0 rfl rfl (vp_in_nI (show i < 132 by omega) (by decide)) dX8_read_45 ?_
          refine va_iast hx hb hK hP hD hS 3 0 rfl rfl (vp_in_nI (show i < 44 by omega) (by decide)) dX8_read_46 (fun H locs hP hD hS => ?_)
          have hE : upd (hsfill hst hsz i) ((nI i).toNatClampNeg) (hst (nI i).toNatClampNeg) = hsfill hst hsz (i + 1) := by rw [nI_clamp (show i < 2 ^ 31 by omega)]; exact hsfill_s hst hsz i
          have hP : va_P D vwCl [(mo, .inr (7, [.ref mo_st, .ref mo_at, .ref mo_isKept, .int 0, .int 2, .ref mo_draft, .int 0, .int 2, .int 0, .int (-4), .ref mo_tape, .int 0, .int 0, .int 0, .int 0, .int 0, .int 0, .int 0, .ref mo_row, .int 0, .int 0, .int 0, .int 0, .ref mo_before, .long 0, .long 0, .long 0, .ref mo_lanes, .ref mo_sizes, .ref mo_cells, .int 0, .ref mo_had])), (mo_st, .inl (k 0, 132, .inl (hst))), (mo_lanes, .inl (k 0, 4, .inl (hsl))), (mo_had, .inl (k 0, 44, .inl (upd (hsfill hst hsz i) ((nI i).toNatClampNeg) (hst (nI i).toNatClampNeg))))] H := hP
          have hD : va_D A [(mo, .inr (7, [.ref mo_st, .ref mo_at, .ref mo_isKept, .int 0, .int 2, .ref mo_draft, .int 0, .int 2, .int 0, .int (-4), .ref mo_tape, .int 0, .int 0, .int 0, .int 0, .int 0, .int 0, .int 0, .ref mo_row, .int 0, .int 0, .int 0, .int 0, .ref mo_before, .long 0, .long 0, .long 0, .ref mo_lanes, .ref mo_sizes, .ref mo_cells, .int 0, .ref mo_had])), (mo_st, .inl (k 0, 132, .inl (hst))), (mo_lanes, .inl (k 0, 4, .inl (hsl))), (mo_had, .inl (k 0, 44, .inl (upd (hsfill hst hsz i) ((nI i).toNatClampNeg) (hst (nI i).toNatClampNeg))))] := hD
          rw [hE] at hP hD
          refine lv_iinc (v := nI (i + 1)) (lv' := [(5, .int (nI (i + 1))), (0, .ref mo), (1, .int 1), (2, .int v), (3, .int f), (4, .int n)]) hx hb dX8_read_47 hl (k := 0) rfl (by rw [nI_succ]; rfl) (by decide) rfl (fun ls hl => ?_)
          refine lv_goto (tgt := 26) hx hb dX8_read_50 (by decide) ?_
          exact ih _ _ _ hP hD hS (lv_sub hl [0, 1, 2, 3, 4, 5] rfl)
        · intro H locs ls hP hD hS hl
          have hE : hsfill hst hsz 44 = hst := hsfill_st
          have hP : va_P D vwCl [(mo, .inr (7, [.ref mo_st, .ref mo_at, .ref mo_isKept, .int 0, .int 2, .ref mo_draft, .int 0, .int 2, .int 0, .int (-4), .ref mo_tape, .int 0, .int 0, .int 0, .int 0, .int 0, .int 0, .int 0, .ref mo_row, .int 0, .int 0, .int 0, .int 0, .ref mo_before, .long 0, .long 0, .long 0, .ref mo_lanes, .ref mo_sizes, .ref mo_cells, .int 0, .ref mo_had])), (mo_st, .inl (k 0, 132, .inl (hst))), (mo_lanes, .inl (k 0, 4, .inl (hsl))), (mo_had, .inl (k 0, 44, .inl (hsfill hst hsz 44)))] H := hP
          have hD : va_D A [(mo, .inr (7, [.ref mo_st, .ref mo_at, .ref mo_isKept, .int 0, .int 2, .ref mo_draft, .int 0, .int 2, .int 0, .int (-4), .ref mo_tape, .int 0, .int 0, .int 0, .int 0, .int 0, .int 0, .int 0, .ref mo_row, .int 0, .int 0, .int 0, .int 0, .ref mo_before, .long 0, .long 0, .long 0, .ref mo_lanes, .ref mo_sizes, .ref mo_cells, .int 0, .ref mo_had])), (mo_st, .inl (k 0, 132, .inl (hst))), (mo_lanes, .inl (k 0, 4, .inl (hsl))), (mo_had, .inl (k 0, 44, .inl (hsfill hst hsz 44)))] := hD
          rw [hE] at hP hD
          refine lv_iload hx hb dX8_read_26 (lv_at hl 0 rfl) ?_
          refine lv_bipush (v := 44) hx hb dX8_read_28 (by decide) ?_
          refine lv_icmp_ge (tgt := 53) hx hb dX8_read_30 (by decide) (fun c_26 => ?_) (fun c_26 => absurd (show (44 : Int32) ≤ nI 44 by decide) c_26)
          refine lv_iconst (v := 0) hx hb dX8_read_53 (by decide) ?_
          refine lv_istore (lv' := [(5, .int 0), (0, .ref mo), (1, .int 1), (2, .int v), (3, .int f), (4, .int n)]) hx hb dX8_read_54 hl (by decide) rfl (fun ls hl => ?_)
          refine lv_iconst (v := 0) hx hb dX8_read_56 (by decide) ?_
          refine lv_istore (lv' := [(6, .int 0), (5, .int 0), (0, .ref mo), (1, .int 1), (2, .int v), (3, .int f), (4, .int n)]) hx hb dX8_read_57 hl (by decide) rfl (fun ls hl => ?_)
          refine lv_iconst (v := 0) hx hb dX8_read_59 (by decide) ?_
          refine lv_istore (lv' := [(7, .int 0), (6, .int 0), (5, .int 0), (0, .ref mo), (1, .int 1), (2, .int v), (3, .int f), (4, .int n)]) hx hb dX8_read_60 hl (by decide) rfl (fun ls hl => ?_)
          refine lv_iload hx hb dX8_read_62 (lv_at hl 0 rfl) ?_
          refine lv_iload hx hb dX8_read_64 (lv_at hl 7 rfl) ?_
          refine lv_icmp_ge (tgt := 250) hx hb dX8_read_66 (by decide) (fun c_27 => ?_) (fun c_27 => ?_)
          · refine lv_aload_n hx hb dX8_read_250 rfl (lv_at hl 3 rfl) ?_
            refine lv_iload hx hb dX8_read_251 (lv_at hl 2 rfl) ?_
            refine va_put (D := D) (ci := 7) (v := .int 0) (ty := .int) (C := RX8) (T := TX8) (N := 32) hx hb hts hiX8 tyX8 tyX8_ok nmX8 hown hK hP hD hS 0 rfl rfl 30 (by decide) fl289 (fun _ h9 => h9) rfl (by decide +kernel) rfl rfl (Nat.le_of_ble_eq_true rfl) dX8_read_253 (fun H locs hP hD hS => ?_)
            have hP : va_P D vwCl [(mo, .inr (7, [.ref mo_st, .ref mo_at, .ref mo_isKept, .int 0, .int 2, .ref mo_draft, .int 0, .int 2, .int 0, .int (-4), .ref mo_tape, .int 0, .int 0, .int 0, .int 0, .int 0, .int 0, .int 0, .ref mo_row, .int 0, .int 0, .int 0, .int 0, .ref mo_before, .long 0, .long 0, .long 0, .ref mo_lanes, .ref mo_sizes, .ref mo_cells, .int 0, .ref mo_had])), (mo_st, .inl (k 0, 132, .inl (hst))), (mo_lanes, .inl (k 0, 4, .inl (hsl))), (mo_had, .inl (k 0, 44, .inl (hst)))] H := hP
            have hD : va_D A [(mo, .inr (7, [.ref mo_st, .ref mo_at, .ref mo_isKept, .int 0, .int 2, .ref mo_draft, .int 0, .int 2, .int 0, .int (-4), .ref mo_tape, .int 0, .int 0, .int 0, .int 0, .int 0, .int 0, .int 0, .ref mo_row, .int 0, .int 0, .int 0, .int 0, .ref mo_before, .long 0, .long 0, .long 0, .ref mo_lanes, .ref mo_sizes, .ref mo_cells, .int 0, .ref mo_had])), (mo_st, .inl (k 0, 132, .inl (hst))), (mo_lanes, .inl (k 0, 4, .inl (hsl))), (mo_had, .inl (k 0, 44, .inl (hst)))] := hD
            refine lv_iload hx hb dX8_read_256 (lv_at hl 1 rfl) ?_
            exact hs_iret hx hb hr hlocks hK hP hD hS () [] rfl (by decide) dX8_read_258 (by first | rfl | decide | (simp only [hsb_0, hsb_1] at c_4 c_24 c_26 c_27; simp [A_read, c_4, c_24, c_26, c_27]; done) | (simp [A_read, c_4, c_24, c_26, c_27]; done))
          · refine lv_iload hx hb dX8_read_69 (lv_at hl 2 rfl) ?_
            refine lv_if_ne (tgt := 250) hx hb dX8_read_71 (by decide) (fun c_28 => absurd c_28 (by decide)) (fun c_28 => ?_)
            refine lv_iconst (v := 0) hx hb dX8_read_74 (by decide) ?_
            refine lv_istore (lv' := [(8, .int 0), (7, .int 0), (6, .int 0), (5, .int 0), (0, .ref mo), (1, .int 1), (2, .int v), (3, .int f), (4, .int n)]) hx hb dX8_read_75 hl (by decide) rfl (fun ls hl => ?_)
            refine lv_iload hx hb dX8_read_77 (lv_at hl 0 rfl) ?_
            refine lv_iconst (v := 2) hx hb dX8_read_79 (by decide) ?_
            refine lv_icmp_ge (tgt := 164) hx hb dX8_read_80 (by decide) (fun c_29 => absurd c_29 (by decide)) (fun c_29 => ?_)
            refine lv_iload hx hb dX8_read_83 (lv_at hl 3 rfl) ?_
            refine lv_if_ne (tgt := 164) hx hb dX8_read_85 (by decide) (fun c_30 => absurd c_30 (by decide)) (fun c_30 => ?_)
            refine lv_iload_n hx hb dX8_read_88 rfl (lv_at hl 7 rfl) ?_
            refine lv_i2l hx hb dX8_read_89 rfl ?_
            refine lv_iconst (v := 2) hx hb dX8_read_90 (by decide) ?_
            refine lv_iload hx hb dX8_read_91 (lv_at hl 1 rfl) ?_
            refine lv_imul hx hb dX8_read_93 ?_
            refine hs_topi 0 (by first | rfl | decide +kernel) ?_
            refine lv_i2l (v := 0) hx hb dX8_read_94 (by decide +kernel) ?_
            refine lv_ladd hx hb dX8_read_95 ?_
            refine lv_iload hx hb dX8_read_96 (lv_at hl 0 rfl) ?_
            refine lv_i2l (v := 0) hx hb dX8_read_98 (by decide +kernel) ?_
            refine lv_ladd hx hb dX8_read_99 ?_
            refine lv_lstore (lv' := [(9, .long (((((f) : Int32).toInt64) + 0) + 0)), (8, .int 0), (7, .int 0), (6, .int 0), (5, .int 0), (0, .ref mo), (1, .int 1), (2, .int v), (3, .int f), (4, .int n)]) hx hb dX8_read_100 hl (by decide) rfl (fun ls hl => ?_)
            refine lv_aload_n hx hb dX8_read_102 rfl (lv_at hl 5 rfl) ?_
            refine va_get (D := D) (ci := 7) (v := .ref mo_lanes) (C := RX8) (T := TX8) (N := 32) hx hb hts hiX8 hown hK hP 0 rfl rfl 27 (by decide) fl32 (fun _ h9 => h9) rfl dX8_read_103 ?_
            refine lv_iload_n hx hb dX8_read_106 rfl (lv_at hl 6 rfl) ?_
            refine va_iald hx hb hK hP 2 0 rfl rfl (hs_in (by decide)) dX8_read_107 ?_
            refine hs_topi (-4) (by first | rfl | decide +kernel) ?_
            refine lv_bipush (v := (-4)) hx hb dX8_read_108 (by decide) ?_
            refine lv_icmp_ne (tgt := 117) hx hb dX8_read_110 (by decide) (fun c_31 => absurd c_31 (by decide)) (fun c_31 => ?_)
            refine lv_iconst (v := 1) hx hb dX8_read_113 (by decide) ?_
            refine lv_goto (tgt := 156) hx hb dX8_read_114 (by decide) ?_
            refine lv_istore (lv' := [(5, .int 1), (9, .long (((((f) : Int32).toInt64) + 0) + 0)), (8, .int 0), (7, .int 0), (6, .int 0), (0, .ref mo), (1, .int 1), (2, .int v), (3, .int f), (4, .int n)]) hx hb dX8_read_156 hl (by decide) rfl (fun ls hl => ?_)
            refine lv_iinc (v := 1) (lv' := [(8, .int 1), (5, .int 1), (9, .long (((((f) : Int32).toInt64) + 0) + 0)), (7, .int 0), (6, .int 0), (0, .ref mo), (1, .int 1), (2, .int v), (3, .int f), (4, .int n)]) hx hb dX8_read_158 hl (k := 2) rfl (by decide) (by decide) rfl (fun ls hl => ?_)
            refine lv_goto (tgt := 77) hx hb dX8_read_161 (by decide) ?_
            refine lv_iload hx hb dX8_read_77 (lv_at hl 0 rfl) ?_
            refine lv_iconst (v := 2) hx hb dX8_read_79 (by decide) ?_
            refine lv_icmp_ge (tgt := 164) hx hb dX8_read_80 (by decide) (fun c_32 => absurd c_32 (by decide)) (fun c_32 => ?_)
            refine lv_iload hx hb dX8_read_83 (lv_at hl 1 rfl) ?_
            refine lv_if_ne (tgt := 164) hx hb dX8_read_85 (by decide) (fun c_33 => ?_) (fun c_33 => absurd c_33 (by decide))
            refine lv_iload hx hb dX8_read_164 (lv_at hl 1 rfl) ?_
            refine lv_if_ne (tgt := 244) hx hb dX8_read_166 (by decide) (fun c_34 => ?_) (fun c_34 => absurd c_34 (by decide))
            refine lv_iinc (v := 1) (lv' := [(7, .int 1), (8, .int 1), (5, .int 1), (9, .long (((((f) : Int32).toInt64) + 0) + 0)), (6, .int 0), (0, .ref mo), (1, .int 1), (2, .int v), (3, .int f), (4, .int n)]) hx hb dX8_read_244 hl (k := 3) rfl (by decide) (by decide) rfl (fun ls hl => ?_)
            refine lv_goto (tgt := 62) hx hb dX8_read_247 (by decide) ?_
            refine lv_iload hx hb dX8_read_62 (lv_at hl 0 rfl) ?_
            refine lv_iload hx hb dX8_read_64 (lv_at hl 9 rfl) ?_
            refine lv_icmp_ge (tgt := 250) hx hb dX8_read_66 (by decide) (fun c_35 => ?_) (fun c_35 => ?_)
            · refine lv_aload_n hx hb dX8_read_250 rfl (lv_at hl 5 rfl) ?_
              refine lv_iload hx hb dX8_read_251 (lv_at hl 2 rfl) ?_
              refine va_put (D := D) (ci := 7) (v := .int 1) (ty := .int) (C := RX8) (T := TX8) (N := 32) hx hb hts hiX8 tyX8 tyX8_ok nmX8 hown hK hP hD hS 0 rfl rfl 30 (by decide) fl289 (fun _ h9 => h9) rfl (by decide +kernel) rfl rfl (Nat.le_of_ble_eq_true rfl) dX8_read_253 (fun H locs hP hD hS => ?_)
              have hP : va_P D vwCl [(mo, .inr (7, [.ref mo_st, .ref mo_at, .ref mo_isKept, .int 0, .int 2, .ref mo_draft, .int 0, .int 2, .int 0, .int (-4), .ref mo_tape, .int 0, .int 0, .int 0, .int 0, .int 0, .int 0, .int 0, .ref mo_row, .int 0, .int 0, .int 0, .int 0, .ref mo_before, .long 0, .long 0, .long 0, .ref mo_lanes, .ref mo_sizes, .ref mo_cells, .int 1, .ref mo_had])), (mo_st, .inl (k 0, 132, .inl (hst))), (mo_lanes, .inl (k 0, 4, .inl (hsl))), (mo_had, .inl (k 0, 44, .inl (hst)))] H := hP
              have hD : va_D A [(mo, .inr (7, [.ref mo_st, .ref mo_at, .ref mo_isKept, .int 0, .int 2, .ref mo_draft, .int 0, .int 2, .int 0, .int (-4), .ref mo_tape, .int 0, .int 0, .int 0, .int 0, .int 0, .int 0, .int 0, .ref mo_row, .int 0, .int 0, .int 0, .int 0, .ref mo_before, .long 0, .long 0, .long 0, .ref mo_lanes, .ref mo_sizes, .ref mo_cells, .int 1, .ref mo_had])), (mo_st, .inl (k 0, 132, .inl (hst))), (mo_lanes, .inl (k 0, 4, .inl (hsl))), (mo_had, .inl (k 0, 44, .inl (hst)))] := hD
              refine lv_iload hx hb dX8_read_256 (lv_at hl 4 rfl) ?_
              exact hs_iret hx hb hr hlocks hK hP hD hS () [] rfl (by decide) dX8_read_258 (by first | rfl | decide | (simp only [hsb_0, hsb_1] at c_4 c_24 c_26 c_27 c_28 c_29 c_30 c_31 c_32 c_33 c_34 c_35; simp [A_read, c_4, c_24, c_26, c_27, c_28, c_29, c_30, c_31, c_32, c_33, c_34, c_35]; done) | (simp [A_read, c_4, c_24, c_26, c_27, c_28, c_29, c_30, c_31, c_32, c_33, c_34, c_35]; done))
            · refine lv_iload hx hb dX8_read_69 (lv_at hl 2 rfl) ?_
              refine lv_if_ne (tgt := 250) hx hb dX8_read_71 (by decide) (fun c_36 => ?_) (fun c_36 => absurd c_36 (by decide))
              refine lv_aload_n hx hb dX8_read_250 rfl (lv_at hl 5 rfl) ?_
              refine lv_iload hx hb dX8_read_251 (lv_at hl 2 rfl) ?_
              refine va_put (D := D) (ci := 7) (v := .int 1) (ty := .int) (C := RX8) (T := TX8) (N := 32) hx hb hts hiX8 tyX8 tyX8_ok nmX8 hown hK hP hD hS 0 rfl rfl 30 (by decide) fl289 (fun _ h9 => h9) rfl (by decide +kernel) rfl rfl (Nat.le_of_ble_eq_true rfl) dX8_read_253 (fun H locs hP hD hS => ?_)
              have hP : va_P D vwCl [(mo, .inr (7, [.ref mo_st, .ref mo_at, .ref mo_isKept, .int 0, .int 2, .ref mo_draft, .int 0, .int 2, .int 0, .int (-4), .ref mo_tape, .int 0, .int 0, .int 0, .int 0, .int 0, .int 0, .int 0, .ref mo_row, .int 0, .int 0, .int 0, .int 0, .ref mo_before, .long 0, .long 0, .long 0, .ref mo_lanes, .ref mo_sizes, .ref mo_cells, .int 1, .ref mo_had])), (mo_st, .inl (k 0, 132, .inl (hst))), (mo_lanes, .inl (k 0, 4, .inl (hsl))), (mo_had, .inl (k 0, 44, .inl (hst)))] H := hP
              have hD : va_D A [(mo, .inr (7, [.ref mo_st, .ref mo_at, .ref mo_isKept, .int 0, .int 2, .ref mo_draft, .int 0, .int 2, .int 0, .int (-4), .ref mo_tape, .int 0, .int 0, .int 0, .int 0, .int 0, .int 0, .int 0, .ref mo_row, .int 0, .int 0, .int 0, .int 0, .ref mo_before, .long 0, .long 0, .long 0, .ref mo_lanes, .ref mo_sizes, .ref mo_cells, .int 1, .ref mo_had])), (mo_st, .inl (k 0, 132, .inl (hst))), (mo_lanes, .inl (k 0, 4, .inl (hsl))), (mo_had, .inl (k 0, 44, .inl (hst)))] := hD
              refine lv_iload hx hb dX8_read_256 (lv_at hl 4 rfl) ?_
              exact hs_iret hx hb hr hlocks hK hP hD hS () [] rfl (by decide) dX8_read_258 (by first | rfl | decide | (simp only [hsb_0, hsb_1] at c_4 c_24 c_26 c_27 c_28 c_29 c_30 c_31 c_32 c_33 c_34 c_35 c_36; simp [A_read, c_4, c_24, c_26, c_27, c_28, c_29, c_30, c_31, c_32, c_33, c_34, c_35, c_36]; done) | (simp [A_read, c_4, c_24, c_26, c_27, c_28, c_29, c_30, c_31, c_32, c_33, c_34, c_35, c_36]; done))
      · refine lv_iconst (v := (-1)) hx hb dX8_read_21 (by decide) ?_
        exact hs_iret hx hb hr hlocks hK hP hD hS () [] rfl (by decide) dX8_read_22 (by first | rfl | decide | (simp only [hsb_0, hsb_1] at c_4 c_24; simp [A_read, c_4, c_24]; done) | (simp [A_read, c_4, c_24]; done))
    · refine lv_iload hx hb dX8_read_8 (lv_at hl 4 rfl) ?_
      refine lv_i2l hx hb dX8_read_10 rfl ?_
      refine lv_lconst (v := 0) hx hb dX8_read_11 (by decide) ?_
      refine lv_ldc2 hx hb hown kl284 dX8_read_12 ?_
      refine hs_pi (va_runS (As := [.long (((n) : Int32).toInt64), .long 0, .long 20]) (rest := []) ⟨hx, hb, hml, hown, hts⟩ (m_in l D k _ n 0 20) (va_cwS 3 hts gX8_read_X8_in rfl rfl rfl (by decide +kernel) ⟨Nat.le_of_ble_eq_true rfl, Nat.le_of_ble_eq_true rfl⟩) (hs_preS hK hN (hs_subP (w := []) hP [] rfl) (hD.sub (ws' := []) [] (by decide) rfl)) rfl rfl hl.1 rfl (lv_room (Nat.le_of_ble_eq_true rfl)) dX8_read_15 ⟨Nat.le_of_ble_eq_true rfl, Nat.le_of_ble_eq_true rfl⟩) hP hD hS hA (fun r_37 u_39 H locs hw_38 hP hS => ?_)
      refine hs_topi (hsb (hsin n 0 20)) hw_38 ?_
      refine lv_if_ne (tgt := 23) hx hb dX8_read_18 (by decide) (fun c_40 => ?_) (fun c_40 => ?_)
      · refine lv_iconst (v := 0) hx hb dX8_read_23 (by decide) ?_
        refine lv_istore (lv' := [(5, .int 0), (0, .ref mo), (1, .int 2), (2, .int v), (3, .int f), (4, .int n)]) hx hb dX8_read_24 hl (by decide) rfl (fun ls hl => ?_)
        refine hs_for 44 (fun i => [(mo, .inr (7, [.ref mo_st, .ref mo_at, .ref mo_isKept, .int 0, .int 2, .ref mo_draft, .int 0, .int 2, .int 0, .int (-4), .ref mo_tape, .int 0, .int 0, .int 0, .int 0, .int 0, .int 0, .int 0, .ref mo_row, .int 0, .int 0, .int 0, .int 0, .ref mo_before, .long 0, .long 0, .long 0, .ref mo_lanes, .ref mo_sizes, .ref mo_cells, .int 0, .ref mo_had])), (mo_st, .inl (k 0, 132, .inl (hst))), (mo_lanes, .inl (k 0, 4, .inl (hsl))), (mo_had, .inl (k 0, 44, .inl (hsfill hst hsz i)))]) (fun i => [(5, .int (nI i)), (0, .ref mo), (1, .int 2), (2, .int v), (3, .int f), (4, .int n)]) ?_ ?_ (by rw [hsfill_0]; exact hP) (by rw [hsfill_0]; exact hD) hS hl
        · intro i hi ih H locs ls hP hD hS hl
          refine lv_iload hx hb dX8_read_26 (lv_at hl 0 rfl) ?_
          refine lv_bipush (v := 44) hx hb dX8_read_28 (by decide) ?_
          refine lv_icmp_ge (tgt := 53) hx hb dX8_read_30 (by decide) (fun c_41 => absurd c_41 (nI_ge (show i < 44 by omega) (by decide))) (fun c_41 => ?_)
          refine lv_aload_n hx hb dX8_read_33 rfl (lv_at hl 1 rfl) ?_
          refine va_get (D := D) (ci := 7) (v := .ref mo_had) (C := RX8) (T := TX8) (N := 32) hx hb hts hiX8 hown hK hP 0 rfl rfl 31 (by decide) fl41 (fun _ h9 => h9) rfl dX8_read_34 ?_
          refine lv_iload hx hb dX8_read_37 (lv_at hl 0 rfl) ?_
          refine lv_aload_n hx hb dX8_read_39 rfl (lv_at hl 1 rfl) ?_
          refine va_get (D := D) (ci := 7) (v := .ref mo_st) (C := RX8) (T := TX8) (N := 32) hx hb hts hiX8 hown hK hP 0 rfl rfl 0 (by decide) fl7 (fun _ h9 => h9) rfl dX8_read_40 ?_
          refine lv_iload hx hb dX8_read_43 (lv_at hl 0 rfl) ?_
          refine va_iald hx hb hK hP 1 0 rfl rfl (vp_in_nI (show i < 132 by omega) (by decide)) dX8_read_45 ?_
          refine va_iast hx hb hK hP hD hS 3 0 rfl rfl (vp_in_nI (show i < 44 by omega) (by decide)) dX8_read_46 (fun H locs hP hD hS => ?_)
          have hE : upd (hsfill hst hsz i) ((nI i).toNatClampNeg) (hst (nI i).toNatClampNeg) = hsfill hst hsz (i + 1) := by rw [nI_clamp (show i < 2 ^ 31 by omega)]; exact hsfill_s hst hsz i
          have hP : va_P D vwCl [(mo, .inr (7, [.ref mo_st, .ref mo_at, .ref mo_isKept, .int 0, .int 2, .ref mo_draft, .int 0, .int 2, .int 0, .int (-4), .ref mo_tape, .int 0, .int 0, .int 0, .int 0, .int 0, .int 0, .int 0, .ref mo_row, .int 0, .int 0, .int 0, .int 0, .ref mo_before, .long 0, .long 0, .long 0, .ref mo_lanes, .ref mo_sizes, .ref mo_cells, .int 0, .ref mo_had])), (mo_st, .inl (k 0, 132, .inl (hst))), (mo_lanes, .inl (k 0, 4, .inl (hsl))), (mo_had, .inl (k 0, 44, .inl (upd (hsfill hst hsz i) ((nI i).toNatClampNeg) (hst (nI i).toNatClampNeg))))] H := hP
          have hD : va_D A [(mo, .inr (7, [.ref mo_st, .ref mo_at, .ref mo_isKept, .int 0, .int 2, .ref mo_draft, .int 0, .int 2, .int 0, .int (-4), .ref mo_tape, .int 0, .int 0, .int 0, .int 0, .int 0, .int 0, .int 0, .ref mo_row, .int 0, .int 0, .int 0, .int 0, .ref mo_before, .long 0, .long 0, .long 0, .ref mo_lanes, .ref mo_sizes, .ref mo_cells, .int 0, .ref mo_had])), (mo_st, .inl (k 0, 132, .inl (hst))), (mo_lanes, .inl (k 0, 4, .inl (hsl))), (mo_had, .inl (k 0, 44, .inl (upd (hsfill hst hsz i) ((nI i).toNatClampNeg) (hst (nI i).toNatClampNeg))))] := hD
          rw [hE] at hP hD
          refine lv_iinc (v := nI (i + 1)) (lv' := [(5, .int (nI (i + 1))), (0, .ref mo), (1, .int 2), (2, .int v), (3, .int f), (4, .int n)]) hx hb dX8_read_47 hl (k := 0) rfl (by rw [nI_succ]; rfl) (by decide) rfl (fun ls hl => ?_)
          refine lv_goto (tgt := 26) hx hb dX8_read_50 (by decide) ?_
          exact ih _ _ _ hP hD hS (lv_sub hl [0, 1, 2, 3, 4, 5] rfl)
        · intro H locs ls hP hD hS hl
          have hE : hsfill hst hsz 44 = hst := hsfill_st
          have hP : va_P D vwCl [(mo, .inr (7, [.ref mo_st, .ref mo_at, .ref mo_isKept, .int 0, .int 2, .ref mo_draft, .int 0, .int 2, .int 0, .int (-4), .ref mo_tape, .int 0, .int 0, .int 0, .int 0, .int 0, .int 0, .int 0, .ref mo_row, .int 0, .int 0, .int 0, .int 0, .ref mo_before, .long 0, .long 0, .long 0, .ref mo_lanes, .ref mo_sizes, .ref mo_cells, .int 0, .ref mo_had])), (mo_st, .inl (k 0, 132, .inl (hst))), (mo_lanes, .inl (k 0, 4, .inl (hsl))), (mo_had, .inl (k 0, 44, .inl (hsfill hst hsz 44)))] H := hP
          have hD : va_D A [(mo, .inr (7, [.ref mo_st, .ref mo_at, .ref mo_isKept, .int 0, .int 2, .ref mo_draft, .int 0, .int 2, .int 0, .int (-4), .ref mo_tape, .int 0, .int 0, .int 0, .int 0, .int 0, .int 0, .int 0, .ref mo_row, .int 0, .int 0, .int 0, .int 0, .ref mo_before, .long 0, .long 0, .long 0, .ref mo_lanes, .ref mo_sizes, .ref mo_cells, .int 0, .ref mo_had])), (mo_st, .inl (k 0, 132, .inl (hst))), (mo_lanes, .inl (k 0, 4, .inl (hsl))), (mo_had, .inl (k 0, 44, .inl (hsfill hst hsz 44)))] := hD
          rw [hE] at hP hD
          refine lv_iload hx hb dX8_read_26 (lv_at hl 0 rfl) ?_
          refine lv_bipush (v := 44) hx hb dX8_read_28 (by decide) ?_
          refine lv_icmp_ge (tgt := 53) hx hb dX8_read_30 (by decide) (fun c_42 => ?_) (fun c_42 => absurd (show (44 : Int32) ≤ nI 44 by decide) c_42)
          refine lv_iconst (v := 0) hx hb dX8_read_53 (by decide) ?_
          refine lv_istore (lv' := [(5, .int 0), (0, .ref mo), (1, .int 2), (2, .int v), (3, .int f), (4, .int n)]) hx hb dX8_read_54 hl (by decide) rfl (fun ls hl => ?_)
          refine lv_iconst (v := 0) hx hb dX8_read_56 (by decide) ?_
          refine lv_istore (lv' := [(6, .int 0), (5, .int 0), (0, .ref mo), (1, .int 2), (2, .int v), (3, .int f), (4, .int n)]) hx hb dX8_read_57 hl (by decide) rfl (fun ls hl => ?_)
          refine lv_iconst (v := 0) hx hb dX8_read_59 (by decide) ?_
          refine lv_istore (lv' := [(7, .int 0), (6, .int 0), (5, .int 0), (0, .ref mo), (1, .int 2), (2, .int v), (3, .int f), (4, .int n)]) hx hb dX8_read_60 hl (by decide) rfl (fun ls hl => ?_)
          refine lv_iload hx hb dX8_read_62 (lv_at hl 0 rfl) ?_
          refine lv_iload hx hb dX8_read_64 (lv_at hl 7 rfl) ?_
          refine lv_icmp_ge (tgt := 250) hx hb dX8_read_66 (by decide) (fun c_43 => ?_) (fun c_43 => ?_)
          · refine lv_aload_n hx hb dX8_read_250 rfl (lv_at hl 3 rfl) ?_
            refine lv_iload hx hb dX8_read_251 (lv_at hl 2 rfl) ?_
            refine va_put (D := D) (ci := 7) (v := .int 0) (ty := .int) (C := RX8) (T := TX8) (N := 32) hx hb hts hiX8 tyX8 tyX8_ok nmX8 hown hK hP hD hS 0 rfl rfl 30 (by decide) fl289 (fun _ h9 => h9) rfl (by decide +kernel) rfl rfl (Nat.le_of_ble_eq_true rfl) dX8_read_253 (fun H locs hP hD hS => ?_)
            have hP : va_P D vwCl [(mo, .inr (7, [.ref mo_st, .ref mo_at, .ref mo_isKept, .int 0, .int 2, .ref mo_draft, .int 0, .int 2, .int 0, .int (-4), .ref mo_tape, .int 0, .int 0, .int 0, .int 0, .int 0, .int 0, .int 0, .ref mo_row, .int 0, .int 0, .int 0, .int 0, .ref mo_before, .long 0, .long 0, .long 0, .ref mo_lanes, .ref mo_sizes, .ref mo_cells, .int 0, .ref mo_had])), (mo_st, .inl (k 0, 132, .inl (hst))), (mo_lanes, .inl (k 0, 4, .inl (hsl))), (mo_had, .inl (k 0, 44, .inl (hst)))] H := hP
            have hD : va_D A [(mo, .inr (7, [.ref mo_st, .ref mo_at, .ref mo_isKept, .int 0, .int 2, .ref mo_draft, .int 0, .int 2, .int 0, .int (-4), .ref mo_tape, .int 0, .int 0, .int 0, .int 0, .int 0, .int 0, .int 0, .ref mo_row, .int 0, .int 0, .int 0, .int 0, .ref mo_before, .long 0, .long 0, .long 0, .ref mo_lanes, .ref mo_sizes, .ref mo_cells, .int 0, .ref mo_had])), (mo_st, .inl (k 0, 132, .inl (hst))), (mo_lanes, .inl (k 0, 4, .inl (hsl))), (mo_had, .inl (k 0, 44, .inl (hst)))] := hD
            refine lv_iload hx hb dX8_read_256 (lv_at hl 1 rfl) ?_
            exact hs_iret hx hb hr hlocks hK hP hD hS () [] rfl (by decide) dX8_read_258 (by first | rfl | decide | (simp only [hsb_0, hsb_1] at c_4 c_40 c_42 c_43; simp [A_read, c_4, c_40, c_42, c_43]; done) | (simp [A_read, c_4, c_40, c_42, c_43]; done))
          · refine lv_iload hx hb dX8_read_69 (lv_at hl 2 rfl) ?_
            refine lv_if_ne (tgt := 250) hx hb dX8_read_71 (by decide) (fun c_44 => absurd c_44 (by decide)) (fun c_44 => ?_)
            refine lv_iconst (v := 0) hx hb dX8_read_74 (by decide) ?_
            refine lv_istore (lv' := [(8, .int 0), (7, .int 0), (6, .int 0), (5, .int 0), (0, .ref mo), (1, .int 2), (2, .int v), (3, .int f), (4, .int n)]) hx hb dX8_read_75 hl (by decide) rfl (fun ls hl => ?_)
            refine lv_iload hx hb dX8_read_77 (lv_at hl 0 rfl) ?_
            refine lv_iconst (v := 2) hx hb dX8_read_79 (by decide) ?_
            refine lv_icmp_ge (tgt := 164) hx hb dX8_read_80 (by decide) (fun c_45 => absurd c_45 (by decide)) (fun c_45 => ?_)
            refine lv_iload hx hb dX8_read_83 (lv_at hl 3 rfl) ?_
            refine lv_if_ne (tgt := 164) hx hb dX8_read_85 (by decide) (fun c_46 => absurd c_46 (by decide)) (fun c_46 => ?_)
            refine lv_iload_n hx hb dX8_read_88 rfl (lv_at hl 7 rfl) ?_
            refine lv_i2l hx hb dX8_read_89 rfl ?_
            refine lv_iconst (v := 2) hx hb dX8_read_90 (by decide) ?_
            refine lv_iload hx hb dX8_read_91 (lv_at hl 1 rfl) ?_
            refine lv_imul hx hb dX8_read_93 ?_
            refine hs_topi 0 (by first | rfl | decide +kernel) ?_
            refine lv_i2l (v := 0) hx hb dX8_read_94 (by decide +kernel) ?_
            refine lv_ladd hx hb dX8_read_95 ?_
            refine lv_iload hx hb dX8_read_96 (lv_at hl 0 rfl) ?_
            refine lv_i2l (v := 0) hx hb dX8_read_98 (by decide +kernel) ?_
            refine lv_ladd hx hb dX8_read_99 ?_
            refine lv_lstore (lv' := [(9, .long (((((f) : Int32).toInt64) + 0) + 0)), (8, .int 0), (7, .int 0), (6, .int 0), (5, .int 0), (0, .ref mo), (1, .int 2), (2, .int v), (3, .int f), (4, .int n)]) hx hb dX8_read_100 hl (by decide) rfl (fun ls hl => ?_)
            refine lv_aload_n hx hb dX8_read_102 rfl (lv_at hl 5 rfl) ?_
            refine va_get (D := D) (ci := 7) (v := .ref mo_lanes) (C := RX8) (T := TX8) (N := 32) hx hb hts hiX8 hown hK hP 0 rfl rfl 27 (by decide) fl32 (fun _ h9 => h9) rfl dX8_read_103 ?_
            refine lv_iload_n hx hb dX8_read_106 rfl (lv_at hl 6 rfl) ?_
            refine va_iald hx hb hK hP 2 0 rfl rfl (hs_in (by decide)) dX8_read_107 ?_
            refine hs_topi (-4) (by first | rfl | decide +kernel) ?_
            refine lv_bipush (v := (-4)) hx hb dX8_read_108 (by decide) ?_
            refine lv_icmp_ne (tgt := 117) hx hb dX8_read_110 (by decide) (fun c_47 => absurd c_47 (by decide)) (fun c_47 => ?_)
            refine lv_iconst (v := 1) hx hb dX8_read_113 (by decide) ?_
            refine lv_goto (tgt := 156) hx hb dX8_read_114 (by decide) ?_
            refine lv_istore (lv' := [(5, .int 1), (9, .long (((((f) : Int32).toInt64) + 0) + 0)), (8, .int 0), (7, .int 0), (6, .int 0), (0, .ref mo), (1, .int 2), (2, .int v), (3, .int f), (4, .int n)]) hx hb dX8_read_156 hl (by decide) rfl (fun ls hl => ?_)
            refine lv_iinc (v := 1) (lv' := [(8, .int 1), (5, .int 1), (9, .long (((((f) : Int32).toInt64) + 0) + 0)), (7, .int 0), (6, .int 0), (0, .ref mo), (1, .int 2), (2, .int v), (3, .int f), (4, .int n)]) hx hb dX8_read_158 hl (k := 2) rfl (by decide) (by decide) rfl (fun ls hl => ?_)
            refine lv_goto (tgt := 77) hx hb dX8_read_161 (by decide) ?_
            refine lv_iload hx hb dX8_read_77 (lv_at hl 0 rfl) ?_
            refine lv_iconst (v := 2) hx hb dX8_read_79 (by decide) ?_
            refine lv_icmp_ge (tgt := 164) hx hb dX8_read_80 (by decide) (fun c_48 => absurd c_48 (by decide)) (fun c_48 => ?_)
            refine lv_iload hx hb dX8_read_83 (lv_at hl 1 rfl) ?_
            refine lv_if_ne (tgt := 164) hx hb dX8_read_85 (by decide) (fun c_49 => ?_) (fun c_49 => absurd c_49 (by decide))
            refine lv_iload hx hb dX8_read_164 (lv_at hl 1 rfl) ?_
            refine lv_if_ne (tgt := 244) hx hb dX8_read_166 (by decide) (fun c_50 => ?_) (fun c_50 => absurd c_50 (by decide))
            refine lv_iinc (v := 1) (lv' := [(7, .int 1), (8, .int 1), (5, .int 1), (9, .long (((((f) : Int32).toInt64) + 0) + 0)), (6, .int 0), (0, .ref mo), (1, .int 2), (2, .int v), (3, .int f), (4, .int n)]) hx hb dX8_read_244 hl (k := 3) rfl (by decide) (by decide) rfl (fun ls hl => ?_)
            refine lv_goto (tgt := 62) hx hb dX8_read_247 (by decide) ?_
            refine lv_iload hx hb dX8_read_62 (lv_at hl 0 rfl) ?_
            refine lv_iload hx hb dX8_read_64 (lv_at hl 9 rfl) ?_
            refine lv_icmp_ge (tgt := 250) hx hb dX8_read_66 (by decide) (fun c_51 => ?_) (fun c_51 => ?_)
            · refine lv_aload_n hx hb dX8_read_250 rfl (lv_at hl 5 rfl) ?_
              refine lv_iload hx hb dX8_read_251 (lv_at hl 2 rfl) ?_
              refine va_put (D := D) (ci := 7) (v := .int 1) (ty := .int) (C := RX8) (T := TX8) (N := 32) hx hb hts hiX8 tyX8 tyX8_ok nmX8 hown hK hP hD hS 0 rfl rfl 30 (by decide) fl289 (fun _ h9 => h9) rfl (by decide +kernel) rfl rfl (Nat.le_of_ble_eq_true rfl) dX8_read_253 (fun H locs hP hD hS => ?_)
              have hP : va_P D vwCl [(mo, .inr (7, [.ref mo_st, .ref mo_at, .ref mo_isKept, .int 0, .int 2, .ref mo_draft, .int 0, .int 2, .int 0, .int (-4), .ref mo_tape, .int 0, .int 0, .int 0, .int 0, .int 0, .int 0, .int 0, .ref mo_row, .int 0, .int 0, .int 0, .int 0, .ref mo_before, .long 0, .long 0, .long 0, .ref mo_lanes, .ref mo_sizes, .ref mo_cells, .int 1, .ref mo_had])), (mo_st, .inl (k 0, 132, .inl (hst))), (mo_lanes, .inl (k 0, 4, .inl (hsl))), (mo_had, .inl (k 0, 44, .inl (hst)))] H := hP
              have hD : va_D A [(mo, .inr (7, [.ref mo_st, .ref mo_at, .ref mo_isKept, .int 0, .int 2, .ref mo_draft, .int 0, .int 2, .int 0, .int (-4), .ref mo_tape, .int 0, .int 0, .int 0, .int 0, .int 0, .int 0, .int 0, .ref mo_row, .int 0, .int 0, .int 0, .int 0, .ref mo_before, .long 0, .long 0, .long 0, .ref mo_lanes, .ref mo_sizes, .ref mo_cells, .int 1, .ref mo_had])), (mo_st, .inl (k 0, 132, .inl (hst))), (mo_lanes, .inl (k 0, 4, .inl (hsl))), (mo_had, .inl (k 0, 44, .inl (hst)))] := hD
              refine lv_iload hx hb dX8_read_256 (lv_at hl 4 rfl) ?_
              exact hs_iret hx hb hr hlocks hK hP hD hS () [] rfl (by decide) dX8_read_258 (by first | rfl | decide | (simp only [hsb_0, hsb_1] at c_4 c_40 c_42 c_43 c_44 c_45 c_46 c_47 c_48 c_49 c_50 c_51; simp [A_read, c_4, c_40, c_42, c_43, c_44, c_45, c_46, c_47, c_48, c_49, c_50, c_51]; done) | (simp [A_read, c_4, c_40, c_42, c_43, c_44, c_45, c_46, c_47, c_48, c_49, c_50, c_51]; done))
            · refine lv_iload hx hb dX8_read_69 (lv_at hl 2 rfl) ?_
              refine lv_if_ne (tgt := 250) hx hb dX8_read_71 (by decide) (fun c_52 => ?_) (fun c_52 => absurd c_52 (by decide))
              refine lv_aload_n hx hb dX8_read_250 rfl (lv_at hl 5 rfl) ?_
              refine lv_iload hx hb dX8_read_251 (lv_at hl 2 rfl) ?_
              refine va_put (D := D) (ci := 7) (v := .int 1) (ty := .int) (C := RX8) (T := TX8) (N := 32) hx hb hts hiX8 tyX8 tyX8_ok nmX8 hown hK hP hD hS 0 rfl rfl 30 (by decide) fl289 (fun _ h9 => h9) rfl (by decide +kernel) rfl rfl (Nat.le_of_ble_eq_true rfl) dX8_read_253 (fun H locs hP hD hS => ?_)
              have hP : va_P D vwCl [(mo, .inr (7, [.ref mo_st, .ref mo_at, .ref mo_isKept, .int 0, .int 2, .ref mo_draft, .int 0, .int 2, .int 0, .int (-4), .ref mo_tape, .int 0, .int 0, .int 0, .int 0, .int 0, .int 0, .int 0, .ref mo_row, .int 0, .int 0, .int 0, .int 0, .ref mo_before, .long 0, .long 0, .long 0, .ref mo_lanes, .ref mo_sizes, .ref mo_cells, .int 1, .ref mo_had])), (mo_st, .inl (k 0, 132, .inl (hst))), (mo_lanes, .inl (k 0, 4, .inl (hsl))), (mo_had, .inl (k 0, 44, .inl (hst)))] H := hP
              have hD : va_D A [(mo, .inr (7, [.ref mo_st, .ref mo_at, .ref mo_isKept, .int 0, .int 2, .ref mo_draft, .int 0, .int 2, .int 0, .int (-4), .ref mo_tape, .int 0, .int 0, .int 0, .int 0, .int 0, .int 0, .int 0, .ref mo_row, .int 0, .int 0, .int 0, .int 0, .ref mo_before, .long 0, .long 0, .long 0, .ref mo_lanes, .ref mo_sizes, .ref mo_cells, .int 1, .ref mo_had])), (mo_st, .inl (k 0, 132, .inl (hst))), (mo_lanes, .inl (k 0, 4, .inl (hsl))), (mo_had, .inl (k 0, 44, .inl (hst)))] := hD
              refine lv_iload hx hb dX8_read_256 (lv_at hl 4 rfl) ?_
              exact hs_iret hx hb hr hlocks hK hP hD hS () [] rfl (by decide) dX8_read_258 (by first | rfl | decide | (simp only [hsb_0, hsb_1] at c_4 c_40 c_42 c_43 c_44 c_45 c_46 c_47 c_48 c_49 c_50 c_51 c_52; simp [A_read, c_4, c_40, c_42, c_43, c_44, c_45, c_46, c_47, c_48, c_49, c_50, c_51, c_52]; done) | (simp [A_read, c_4, c_40, c_42, c_43, c_44, c_45, c_46, c_47, c_48, c_49, c_50, c_51, c_52]; done))
      · refine lv_iconst (v := (-1)) hx hb dX8_read_21 (by decide) ?_
        exact hs_iret hx hb hr hlocks hK hP hD hS () [] rfl (by decide) dX8_read_22 (by first | rfl | decide | (simp only [hsb_0, hsb_1] at c_4 c_40; simp [A_read, c_4, c_40]; done) | (simp [A_read, c_4, c_40]; done))
    · refine lv_iload hx hb dX8_read_8 (lv_at hl 4 rfl) ?_
      refine lv_i2l hx hb dX8_read_10 rfl ?_
      refine lv_lconst (v := 0) hx hb dX8_read_11 (by decide) ?_
      refine lv_ldc2 hx hb hown kl284 dX8_read_12 ?_
      refine hs_pi (va_runS (As := [.long (((n) : Int32).toInt64), .long 0, .long 20]) (rest := []) ⟨hx, hb, hml, hown, hts⟩ (m_in l D k _ n 0 20) (va_cwS 3 hts gX8_read_X8_in rfl rfl rfl (by decide +kernel) ⟨Nat.le_of_ble_eq_true rfl, Nat.le_of_ble_eq_true rfl⟩) (hs_preS hK hN (hs_subP (w := []) hP [] rfl) (hD.sub (ws' := []) [] (by decide) rfl)) rfl rfl hl.1 rfl (lv_room (Nat.le_of_ble_eq_true rfl)) dX8_read_15 ⟨Nat.le_of_ble_eq_true rfl, Nat.le_of_ble_eq_true rfl⟩) hP hD hS hA (fun r_53 u_55 H locs hw_54 hP hS => ?_)
      refine hs_topi (hsb (hsin n 0 20)) hw_54 ?_
      refine lv_if_ne (tgt := 23) hx hb dX8_read_18 (by decide) (fun c_56 => ?_) (fun c_56 => ?_)
      · refine lv_iconst (v := 0) hx hb dX8_read_23 (by decide) ?_
        refine lv_istore (lv' := [(5, .int 0), (0, .ref mo), (1, .int 3), (2, .int v), (3, .int f), (4, .int n)]) hx hb dX8_read_24 hl (by decide) rfl (fun ls hl => ?_)
        refine hs_for 44 (fun i => [(mo, .inr (7, [.ref mo_st, .ref mo_at, .ref mo_isKept, .int 0, .int 2, .ref mo_draft, .int 0, .int 2, .int 0, .int (-4), .ref mo_tape, .int 0, .int 0, .int 0, .int 0, .int 0, .int 0, .int 0, .ref mo_row, .int 0, .int 0, .int 0, .int 0, .ref mo_before, .long 0, .long 0, .long 0, .ref mo_lanes, .ref mo_sizes, .ref mo_cells, .int 0, .ref mo_had])), (mo_st, .inl (k 0, 132, .inl (hst))), (mo_lanes, .inl (k 0, 4, .inl (hsl))), (mo_had, .inl (k 0, 44, .inl (hsfill hst hsz i)))]) (fun i => [(5, .int (nI i)), (0, .ref mo), (1, .int 3), (2, .int v), (3, .int f), (4, .int n)]) ?_ ?_ (by rw [hsfill_0]; exact hP) (by rw [hsfill_0]; exact hD) hS hl
        · intro i hi ih H locs ls hP hD hS hl
          refine lv_iload hx hb dX8_read_26 (lv_at hl 0 rfl) ?_
          refine lv_bipush (v := 44) hx hb dX8_read_28 (by decide) ?_
          refine lv_icmp_ge (tgt := 53) hx hb dX8_read_30 (by decide) (fun c_57 => absurd c_57 (nI_ge (show i < 44 by omega) (by decide))) (fun c_57 => ?_)
          refine lv_aload_n hx hb dX8_read_33 rfl (lv_at hl 1 rfl) ?_
          refine va_get (D := D) (ci := 7) (v := .ref mo_had) (C := RX8) (T := TX8) (N := 32) hx hb hts hiX8 hown hK hP 0 rfl rfl 31 (by decide) fl41 (fun _ h9 => h9) rfl dX8_read_34 ?_
          refine lv_iload hx hb dX8_read_37 (lv_at hl 0 rfl) ?_
          refine lv_aload_n hx hb dX8_read_39 rfl (lv_at hl 1 rfl) ?_
          refine va_get (D := D) (ci := 7) (v := .ref mo_st) (C := RX8) (T := TX8) (N := 32) hx hb hts hiX8 hown hK hP 0 rfl rfl 0 (by decide) fl7 (fun _ h9 => h9) rfl dX8_read_40 ?_
          refine lv_iload hx hb dX8_read_43 (lv_at hl 0 rfl) ?_
          refine va_iald hx hb hK hP 1 0 rfl rfl (vp_in_nI (show i < 132 by omega) (by decide)) dX8_read_45 ?_
          refine va_iast hx hb hK hP hD hS 3 0 rfl rfl (vp_in_nI (show i < 44 by omega) (by decide)) dX8_read_46 (fun H locs hP hD hS => ?_)
          have hE : upd (hsfill hst hsz i) ((nI i).toNatClampNeg) (hst (nI i).toNatClampNeg) = hsfill hst hsz (i + 1) := by rw [nI_clamp (show i < 2 ^ 31 by omega)]; exact hsfill_s hst hsz i
          have hP : va_P D vwCl [(mo, .inr (7, [.ref mo_st, .ref mo_at, .ref mo_isKept, .int 0, .int 2, .ref mo_draft, .int 0, .int 2, .int 0, .int (-4), .ref mo_tape, .int 0, .int 0, .int 0, .int 0, .int 0, .int 0, .int 0, .ref mo_row, .int 0, .int 0, .int 0, .int 0, .ref mo_before, .long 0, .long 0, .long 0, .ref mo_lanes, .ref mo_sizes, .ref mo_cells, .int 0, .ref mo_had])), (mo_st, .inl (k 0, 132, .inl (hst))), (mo_lanes, .inl (k 0, 4, .inl (hsl))), (mo_had, .inl (k 0, 44, .inl (upd (hsfill hst hsz i) ((nI i).toNatClampNeg) (hst (nI i).toNatClampNeg))))] H := hP
          have hD : va_D A [(mo, .inr (7, [.ref mo_st, .ref mo_at, .ref mo_isKept, .int 0, .int 2, .ref mo_draft, .int 0, .int 2, .int 0, .int (-4), .ref mo_tape, .int 0, .int 0, .int 0, .int 0, .int 0, .int 0, .int 0, .ref mo_row, .int 0, .int 0, .int 0, .int 0, .ref mo_before, .long 0, .long 0, .long 0, .ref mo_lanes, .ref mo_sizes, .ref mo_cells, .int 0, .ref mo_had])), (mo_st, .inl (k 0, 132, .inl (hst))), (mo_lanes, .inl (k 0, 4, .inl (hsl))), (mo_had, .inl (k 0, 44, .inl (upd (hsfill hst hsz i) ((nI i).toNatClampNeg) (hst (nI i).toNatClampNeg))))] := hD
          rw [hE] at hP hD
          refine lv_iinc (v := nI (i + 1)) (lv' := [(5, .int (nI (i + 1))), (0, .ref mo), (1, .int 3), (2, .int v), (3, .int f), (4, .int n)]) hx hb dX8_read_47 hl (k := 0) rfl (by rw [nI_succ]; rfl) (by decide) rfl (fun ls hl => ?_)
          refine lv_goto (tgt := 26) hx hb dX8_read_50 (by decide) ?_
          exact ih _ _ _ hP hD hS (lv_sub hl [0, 1, 2, 3, 4, 5] rfl)
        · intro H locs ls hP hD hS hl
          have hE : hsfill hst hsz 44 = hst := hsfill_st
          have hP : va_P D vwCl [(mo, .inr (7, [.ref mo_st, .ref mo_at, .ref mo_isKept, .int 0, .int 2, .ref mo_draft, .int 0, .int 2, .int 0, .int (-4), .ref mo_tape, .int 0, .int 0, .int 0, .int 0, .int 0, .int 0, .int 0, .ref mo_row, .int 0, .int 0, .int 0, .int 0, .ref mo_before, .long 0, .long 0, .long 0, .ref mo_lanes, .ref mo_sizes, .ref mo_cells, .int 0, .ref mo_had])), (mo_st, .inl (k 0, 132, .inl (hst))), (mo_lanes, .inl (k 0, 4, .inl (hsl))), (mo_had, .inl (k 0, 44, .inl (hsfill hst hsz 44)))] H := hP
          have hD : va_D A [(mo, .inr (7, [.ref mo_st, .ref mo_at, .ref mo_isKept, .int 0, .int 2, .ref mo_draft, .int 0, .int 2, .int 0, .int (-4), .ref mo_tape, .int 0, .int 0, .int 0, .int 0, .int 0, .int 0, .int 0, .ref mo_row, .int 0, .int 0, .int 0, .int 0, .ref mo_before, .long 0, .long 0, .long 0, .ref mo_lanes, .ref mo_sizes, .ref mo_cells, .int 0, .ref mo_had])), (mo_st, .inl (k 0, 132, .inl (hst))), (mo_lanes, .inl (k 0, 4, .inl (hsl))), (mo_had, .inl (k 0, 44, .inl (hsfill hst hsz 44)))] := hD
          rw [hE] at hP hD
          refine lv_iload hx hb dX8_read_26 (lv_at hl 0 rfl) ?_
          refine lv_bipush (v := 44) hx hb dX8_read_28 (by decide) ?_
          refine lv_icmp_ge (tgt := 53) hx hb dX8_read_30 (by decide) (fun c_58 => ?_) (fun c_58 => absurd (show (44 : Int32) ≤ nI 44 by decide) c_58)
          refine lv_iconst (v := 0) hx hb dX8_read_53 (by decide) ?_
          refine lv_istore (lv' := [(5, .int 0), (0, .ref mo), (1, .int 3), (2, .int v), (3, .int f), (4, .int n)]) hx hb dX8_read_54 hl (by decide) rfl (fun ls hl => ?_)
          refine lv_iconst (v := 0) hx hb dX8_read_56 (by decide) ?_
          refine lv_istore (lv' := [(6, .int 0), (5, .int 0), (0, .ref mo), (1, .int 3), (2, .int v), (3, .int f), (4, .int n)]) hx hb dX8_read_57 hl (by decide) rfl (fun ls hl => ?_)
          refine lv_iconst (v := 0) hx hb dX8_read_59 (by decide) ?_
          refine lv_istore (lv' := [(7, .int 0), (6, .int 0), (5, .int 0), (0, .ref mo), (1, .int 3), (2, .int v), (3, .int f), (4, .int n)]) hx hb dX8_read_60 hl (by decide) rfl (fun ls hl => ?_)
          refine lv_iload hx hb dX8_read_62 (lv_at hl 0 rfl) ?_
          refine lv_iload hx hb dX8_read_64 (lv_at hl 7 rfl) ?_
          refine lv_icmp_ge (tgt := 250) hx hb dX8_read_66 (by decide) (fun c_59 => ?_) (fun c_59 => ?_)
          · refine lv_aload_n hx hb dX8_read_250 rfl (lv_at hl 3 rfl) ?_
            refine lv_iload hx hb dX8_read_251 (lv_at hl 2 rfl) ?_
            refine va_put (D := D) (ci := 7) (v := .int 0) (ty := .int) (C := RX8) (T := TX8) (N := 32) hx hb hts hiX8 tyX8 tyX8_ok nmX8 hown hK hP hD hS 0 rfl rfl 30 (by decide) fl289 (fun _ h9 => h9) rfl (by decide +kernel) rfl rfl (Nat.le_of_ble_eq_true rfl) dX8_read_253 (fun H locs hP hD hS => ?_)
            have hP : va_P D vwCl [(mo, .inr (7, [.ref mo_st, .ref mo_at, .ref mo_isKept, .int 0, .int 2, .ref mo_draft, .int 0, .int 2, .int 0, .int (-4), .ref mo_tape, .int 0, .int 0, .int 0, .int 0, .int 0, .int 0, .int 0, .ref mo_row, .int 0, .int 0, .int 0, .int 0, .ref mo_before, .long 0, .long 0, .long 0, .ref mo_lanes, .ref mo_sizes, .ref mo_cells, .int 0, .ref mo_had])), (mo_st, .inl (k 0, 132, .inl (hst))), (mo_lanes, .inl (k 0, 4, .inl (hsl))), (mo_had, .inl (k 0, 44, .inl (hst)))] H := hP
            have hD : va_D A [(mo, .inr (7, [.ref mo_st, .ref mo_at, .ref mo_isKept, .int 0, .int 2, .ref mo_draft, .int 0, .int 2, .int 0, .int (-4), .ref mo_tape, .int 0, .int 0, .int 0, .int 0, .int 0, .int 0, .int 0, .ref mo_row, .int 0, .int 0, .int 0, .int 0, .ref mo_before, .long 0, .long 0, .long 0, .ref mo_lanes, .ref mo_sizes, .ref mo_cells, .int 0, .ref mo_had])), (mo_st, .inl (k 0, 132, .inl (hst))), (mo_lanes, .inl (k 0, 4, .inl (hsl))), (mo_had, .inl (k 0, 44, .inl (hst)))] := hD
            refine lv_iload hx hb dX8_read_256 (lv_at hl 1 rfl) ?_
            exact hs_iret hx hb hr hlocks hK hP hD hS () [] rfl (by decide) dX8_read_258 (by first | rfl | decide | (simp only [hsb_0, hsb_1] at c_4 c_56 c_58 c_59; simp [A_read, c_4, c_56, c_58, c_59]; done) | (simp [A_read, c_4, c_56, c_58, c_59]; done))
          · refine lv_iload hx hb dX8_read_69 (lv_at hl 2 rfl) ?_
            refine lv_if_ne (tgt := 250) hx hb dX8_read_71 (by decide) (fun c_60 => absurd c_60 (by decide)) (fun c_60 => ?_)
            refine lv_iconst (v := 0) hx hb dX8_read_74 (by decide) ?_
            refine lv_istore (lv' := [(8, .int 0), (7, .int 0), (6, .int 0), (5, .int 0), (0, .ref mo), (1, .int 3), (2, .int v), (3, .int f), (4, .int n)]) hx hb dX8_read_75 hl (by decide) rfl (fun ls hl => ?_)
            refine lv_iload hx hb dX8_read_77 (lv_at hl 0 rfl) ?_
            refine lv_iconst (v := 2) hx hb dX8_read_79 (by decide) ?_
            refine lv_icmp_ge (tgt := 164) hx hb dX8_read_80 (by decide) (fun c_61 => absurd c_61 (by decide)) (fun c_61 => ?_)
            refine lv_iload hx hb dX8_read_83 (lv_at hl 3 rfl) ?_
            refine lv_if_ne (tgt := 164) hx hb dX8_read_85 (by decide) (fun c_62 => absurd c_62 (by decide)) (fun c_62 => ?_)
            refine lv_iload_n hx hb dX8_read_88 rfl (lv_at hl 7 rfl) ?_
            refine lv_i2l hx hb dX8_read_89 rfl ?_
            refine lv_iconst (v := 2) hx hb dX8_read_90 (by decide) ?_
            refine lv_iload hx hb dX8_read_91 (lv_at hl 1 rfl) ?_
            refine lv_imul hx hb dX8_read_93 ?_
            refine hs_topi 0 (by first | rfl | decide +kernel) ?_
            refine lv_i2l (v := 0) hx hb dX8_read_94 (by decide +kernel) ?_
            refine lv_ladd hx hb dX8_read_95 ?_
            refine lv_iload hx hb dX8_read_96 (lv_at hl 0 rfl) ?_
            refine lv_i2l (v := 0) hx hb dX8_read_98 (by decide +kernel) ?_
            refine lv_ladd hx hb dX8_read_99 ?_
            refine lv_lstore (lv' := [(9, .long (((((f) : Int32).toInt64) + 0) + 0)), (8, .int 0), (7, .int 0), (6, .int 0), (5, .int 0), (0, .ref mo), (1, .int 3), (2, .int v), (3, .int f), (4, .int n)]) hx hb dX8_read_100 hl (by decide) rfl (fun ls hl => ?_)
            refine lv_aload_n hx hb dX8_read_102 rfl (lv_at hl 5 rfl) ?_
            refine va_get (D := D) (ci := 7) (v := .ref mo_lanes) (C := RX8) (T := TX8) (N := 32) hx hb hts hiX8 hown hK hP 0 rfl rfl 27 (by decide) fl32 (fun _ h9 => h9) rfl dX8_read_103 ?_
            refine lv_iload_n hx hb dX8_read_106 rfl (lv_at hl 6 rfl) ?_
            refine va_iald hx hb hK hP 2 0 rfl rfl (hs_in (by decide)) dX8_read_107 ?_
            refine hs_topi (-4) (by first | rfl | decide +kernel) ?_
            refine lv_bipush (v := (-4)) hx hb dX8_read_108 (by decide) ?_
            refine lv_icmp_ne (tgt := 117) hx hb dX8_read_110 (by decide) (fun c_63 => absurd c_63 (by decide)) (fun c_63 => ?_)
            refine lv_iconst (v := 1) hx hb dX8_read_113 (by decide) ?_
            refine lv_goto (tgt := 156) hx hb dX8_read_114 (by decide) ?_
            refine lv_istore (lv' := [(5, .int 1), (9, .long (((((f) : Int32).toInt64) + 0) + 0)), (8, .int 0), (7, .int 0), (6, .int 0), (0, .ref mo), (1, .int 3), (2, .int v), (3, .int f), (4, .int n)]) hx hb dX8_read_156 hl (by decide) rfl (fun ls hl => ?_)
            refine lv_iinc (v := 1) (lv' := [(8, .int 1), (5, .int 1), (9, .long (((((f) : Int32).toInt64) + 0) + 0)), (7, .int 0), (6, .int 0), (0, .ref mo), (1, .int 3), (2, .int v), (3, .int f), (4, .int n)]) hx hb dX8_read_158 hl (k := 2) rfl (by decide) (by decide) rfl (fun ls hl => ?_)
            refine lv_goto (tgt := 77) hx hb dX8_read_161 (by decide) ?_
            refine lv_iload hx hb dX8_read_77 (lv_at hl 0 rfl) ?_
            refine lv_iconst (v := 2) hx hb dX8_read_79 (by decide) ?_
            refine lv_icmp_ge (tgt := 164) hx hb dX8_read_80 (by decide) (fun c_64 => absurd c_64 (by decide)) (fun c_64 => ?_)
            refine lv_iload hx hb dX8_read_83 (lv_at hl 1 rfl) ?_
            refine lv_if_ne (tgt := 164) hx hb dX8_read_85 (by decide) (fun c_65 => ?_) (fun c_65 => absurd c_65 (by decide))
            refine lv_iload hx hb dX8_read_164 (lv_at hl 1 rfl) ?_
            refine lv_if_ne (tgt := 244) hx hb dX8_read_166 (by decide) (fun c_66 => ?_) (fun c_66 => absurd c_66 (by decide))
            refine lv_iinc (v := 1) (lv' := [(7, .int 1), (8, .int 1), (5, .int 1), (9, .long (((((f) : Int32).toInt64) + 0) + 0)), (6, .int 0), (0, .ref mo), (1, .int 3), (2, .int v), (3, .int f), (4, .int n)]) hx hb dX8_read_244 hl (k := 3) rfl (by decide) (by decide) rfl (fun ls hl => ?_)
            refine lv_goto (tgt := 62) hx hb dX8_read_247 (by decide) ?_
            refine lv_iload hx hb dX8_read_62 (lv_at hl 0 rfl) ?_
            refine lv_iload hx hb dX8_read_64 (lv_at hl 9 rfl) ?_
            refine lv_icmp_ge (tgt := 250) hx hb dX8_read_66 (by decide) (fun c_67 => ?_) (fun c_67 => ?_)
            · refine lv_aload_n hx hb dX8_read_250 rfl (lv_at hl 5 rfl) ?_
              refine lv_iload hx hb dX8_read_251 (lv_at hl 2 rfl) ?_
              refine va_put (D := D) (ci := 7) (v := .int 1) (ty := .int) (C := RX8) (T := TX8) (N := 32) hx hb hts hiX8 tyX8 tyX8_ok nmX8 hown hK hP hD hS 0 rfl rfl 30 (by decide) fl289 (fun _ h9 => h9) rfl (by decide +kernel) rfl rfl (Nat.le_of_ble_eq_true rfl) dX8_read_253 (fun H locs hP hD hS => ?_)
              have hP : va_P D vwCl [(mo, .inr (7, [.ref mo_st, .ref mo_at, .ref mo_isKept, .int 0, .int 2, .ref mo_draft, .int 0, .int 2, .int 0, .int (-4), .ref mo_tape, .int 0, .int 0, .int 0, .int 0, .int 0, .int 0, .int 0, .ref mo_row, .int 0, .int 0, .int 0, .int 0, .ref mo_before, .long 0, .long 0, .long 0, .ref mo_lanes, .ref mo_sizes, .ref mo_cells, .int 1, .ref mo_had])), (mo_st, .inl (k 0, 132, .inl (hst))), (mo_lanes, .inl (k 0, 4, .inl (hsl))), (mo_had, .inl (k 0, 44, .inl (hst)))] H := hP
              have hD : va_D A [(mo, .inr (7, [.ref mo_st, .ref mo_at, .ref mo_isKept, .int 0, .int 2, .ref mo_draft, .int 0, .int 2, .int 0, .int (-4), .ref mo_tape, .int 0, .int 0, .int 0, .int 0, .int 0, .int 0, .int 0, .ref mo_row, .int 0, .int 0, .int 0, .int 0, .ref mo_before, .long 0, .long 0, .long 0, .ref mo_lanes, .ref mo_sizes, .ref mo_cells, .int 1, .ref mo_had])), (mo_st, .inl (k 0, 132, .inl (hst))), (mo_lanes, .inl (k 0, 4, .inl (hsl))), (mo_had, .inl (k 0, 44, .inl (hst)))] := hD
              refine lv_iload hx hb dX8_read_256 (lv_at hl 4 rfl) ?_
              exact hs_iret hx hb hr hlocks hK hP hD hS () [] rfl (by decide) dX8_read_258 (by first | rfl | decide | (simp only [hsb_0, hsb_1] at c_4 c_56 c_58 c_59 c_60 c_61 c_62 c_63 c_64 c_65 c_66 c_67; simp [A_read, c_4, c_56, c_58, c_59, c_60, c_61, c_62, c_63, c_64, c_65, c_66, c_67]; done) | (simp [A_read, c_4, c_56, c_58, c_59, c_60, c_61, c_62, c_63, c_64, c_65, c_66, c_67]; done))
            · refine lv_iload hx hb dX8_read_69 (lv_at hl 2 rfl) ?_
              refine lv_if_ne (tgt := 250) hx hb dX8_read_71 (by decide) (fun c_68 => ?_) (fun c_68 => absurd c_68 (by decide))
              refine lv_aload_n hx hb dX8_read_250 rfl (lv_at hl 5 rfl) ?_
              refine lv_iload hx hb dX8_read_251 (lv_at hl 2 rfl) ?_
              refine va_put (D := D) (ci := 7) (v := .int 1) (ty := .int) (C := RX8) (T := TX8) (N := 32) hx hb hts hiX8 tyX8 tyX8_ok nmX8 hown hK hP hD hS 0 rfl rfl 30 (by decide) fl289 (fun _ h9 => h9) rfl (by decide +kernel) rfl rfl (Nat.le_of_ble_eq_true rfl) dX8_read_253 (fun H locs hP hD hS => ?_)
              have hP : va_P D vwCl [(mo, .inr (7, [.ref mo_st, .ref mo_at, .ref mo_isKept, .int 0, .int 2, .ref mo_draft, .int 0, .int 2, .int 0, .int (-4), .ref mo_tape, .int 0, .int 0, .int 0, .int 0, .int 0, .int 0, .int 0, .ref mo_row, .int 0, .int 0, .int 0, .int 0, .ref mo_before, .long 0, .long 0, .long 0, .ref mo_lanes, .ref mo_sizes, .ref mo_cells, .int 1, .ref mo_had])), (mo_st, .inl (k 0, 132, .inl (hst))), (mo_lanes, .inl (k 0, 4, .inl (hsl))), (mo_had, .inl (k 0, 44, .inl (hst)))] H := hP
              have hD : va_D A [(mo, .inr (7, [.ref mo_st, .ref mo_at, .ref mo_isKept, .int 0, .int 2, .ref mo_draft, .int 0, .int 2, .int 0, .int (-4), .ref mo_tape, .int 0, .int 0, .int 0, .int 0, .int 0, .int 0, .int 0, .ref mo_row, .int 0, .int 0, .int 0, .int 0, .ref mo_before, .long 0, .long 0, .long 0, .ref mo_lanes, .ref mo_sizes, .ref mo_cells, .int 1, .ref mo_had])), (mo_st, .inl (k 0, 132, .inl (hst))), (mo_lanes, .inl (k 0, 4, .inl (hsl))), (mo_had, .inl (k 0, 44, .inl (hst)))] := hD
              refine lv_iload hx hb dX8_read_256 (lv_at hl 4 rfl) ?_
              exact hs_iret hx hb hr hlocks hK hP hD hS () [] rfl (by decide) dX8_read_258 (by first | rfl | decide | (simp only [hsb_0, hsb_1] at c_4 c_56 c_58 c_59 c_60 c_61 c_62 c_63 c_64 c_65 c_66 c_67 c_68; simp [A_read, c_4, c_56, c_58, c_59, c_60, c_61, c_62, c_63, c_64, c_65, c_66, c_67, c_68]; done) | (simp [A_read, c_4, c_56, c_58, c_59, c_60, c_61, c_62, c_63, c_64, c_65, c_66, c_67, c_68]; done))
      · refine lv_iconst (v := (-1)) hx hb dX8_read_21 (by decide) ?_
        exact hs_iret hx hb hr hlocks hK hP hD hS () [] rfl (by decide) dX8_read_22 (by first | rfl | decide | (simp only [hsb_0, hsb_1] at c_4 c_56; simp [A_read, c_4, c_56]; done) | (simp [A_read, c_4, c_56]; done))

set_option maxHeartbeats 4000000 in
set_option maxRecDepth 100000 in
theorem q_torn (l : Launch) (D : va_G) (k : Nat → ClassId) (sz : Nat) (mo : Nat) (mo_st : Nat) (mo_at : Nat) (mo_isKept : Nat) (mo_draft : Nat) (mo_tape : Nat) (mo_row : Nat) (mo_before : Nat) (mo_lanes : Nat) (mo_sizes : Nat) (mo_cells : Nat) (mo_had : Nat)  : MI l yX8_torn wsX8_torn ({ frames := 0, cells := 0, slots := 0, locals := 0 }) D k [.ref mo] [(mo, .inr (7, [.ref mo_st, .ref mo_at, .ref mo_isKept, .int 0, .int 2, .ref mo_draft, .int 0, .int 2, .int 0, .int (-4), .ref mo_tape, .int 0, .int 0, .int 0, .int 0, .int 0, .int 0, .int 0, .ref mo_row, .int 0, .int 0, .int 0, .int 0, .ref mo_before, .long 0, .long 0, .long 0, .ref mo_lanes, .ref mo_sizes, .ref mo_cells, .int 0, .ref mo_had]))] sz (fun (r : Int32) (u : Unit) => r = A_torn) (fun (u : Unit) => []) := by
  refine Met.ofW (cc := cX8_torn) (maxL := 1) (ret := (some .int)) (by decide) rfl ?_
  intro p e s m args below meth c s₁ B hml hv
  obtain ⟨rfl, hsz, hP, hK, hD0, hN⟩ := hv
  have hx := B.exec
  have hb := B.bytes
  have hr := B.returns
  have hlocks := B.notSynchronized
  have hts := atoms_spec (ws := wsX8_torn) B.pre
  have hown : s.vm.findClass RX8 = some m.cls := findClass_of_methodNamed B.named
  have hiX8 : ∀ w ∈ u_ws RX8 TX8 32, w ∈ wsX8_torn := by decide +kernel
  have fl289 := hts (.fieldLink RX8 289 "HalfScalesModel" "torn" "I") (by decide +kernel)
  subst hsz
  have hD := hD0.self (sz := s.heap.size)
  generalize hAe : va_A [(mo, .inr (7, [.ref mo_st, .ref mo_at, .ref mo_isKept, .int 0, .int 2, .ref mo_draft, .int 0, .int 2, .int 0, .int (-4), .ref mo_tape, .int 0, .int 0, .int 0, .int 0, .int 0, .int 0, .int 0, .ref mo_row, .int 0, .int 0, .int 0, .int 0, .ref mo_before, .long 0, .long 0, .long 0, .ref mo_lanes, .ref mo_sizes, .ref mo_cells, .int 0, .ref mo_had]))] s.heap.size = A at hD ⊢
  have hA : ∀ q : Nat, s.heap.size ≤ q → A q := fun q h => by rw [← hAe]; exact Or.inr h
  have hS : va_S A s.heap s.heap [] := va_S.rf
  have hl := lv_entry ([.ref mo]) (n := 1) (Nat.le_of_ble_eq_true rfl)
  rw [lg_entry_eq]
  generalize (lg_sl ([.ref mo]) ++ List.replicate (1 - (lg_sl ([.ref mo])).length) Slot.unset).toArray = ls at hl ⊢
  have hl : lv_has ls 1 [(0, .ref mo)] := hl
  have hP : va_P D vwCl [(mo, .inr (7, [.ref mo_st, .ref mo_at, .ref mo_isKept, .int 0, .int 2, .ref mo_draft, .int 0, .int 2, .int 0, .int (-4), .ref mo_tape, .int 0, .int 0, .int 0, .int 0, .int 0, .int 0, .int 0, .ref mo_row, .int 0, .int 0, .int 0, .int 0, .ref mo_before, .long 0, .long 0, .long 0, .ref mo_lanes, .ref mo_sizes, .ref mo_cells, .int 0, .ref mo_had]))] s.heap := hP
  refine lv_aload_n hx hb dX8_torn_0 rfl (lv_at hl 0 rfl) ?_
  refine va_get (D := D) (ci := 7) (v := .int 0) (C := RX8) (T := TX8) (N := 32) hx hb hts hiX8 hown hK hP 0 rfl rfl 30 (by decide) fl289 (fun _ h9 => h9) rfl dX8_torn_1 ?_
  exact hs_iret hx hb hr hlocks hK hP hD hS () [] rfl (by decide) dX8_torn_4 (by first | rfl | decide | (simp [A_torn]; done))

set_option maxHeartbeats 4000000 in
set_option maxRecDepth 100000 in
theorem q_count (l : Launch) (D : va_G) (k : Nat → ClassId) (sz : Nat) (mo : Nat) (mo_st : Nat) (mo_at : Nat) (mo_isKept : Nat) (mo_draft : Nat) (mo_tape : Nat) (mo_row : Nat) (mo_before : Nat) (mo_lanes : Nat) (mo_sizes : Nat) (mo_cells : Nat) (mo_had : Nat) (what : Int32)  : MI l yX8_count wsX8_count ({ frames := 1, cells := 0, slots := 0, locals := 20 }) D k [.ref mo, .int what] [(mo, .inr (7, [.ref mo_st, .ref mo_at, .ref mo_isKept, .int 0, .int 2, .ref mo_draft, .int 0, .int 2, .int 0, .int (-4), .ref mo_tape, .int 0, .int 0, .int 0, .int 0, .int 0, .int 0, .int 0, .ref mo_row, .int 0, .int 0, .int 0, .int 0, .ref mo_before, .long 0, .long 0, .long 0, .ref mo_lanes, .ref mo_sizes, .ref mo_cells, .int 0, .ref mo_had])), (mo_st, .inl (k 0, 132, .inl (hst))), (mo_isKept, .inl (k 2, 2, .inl (hsz))), (mo_lanes, .inl (k 0, 4, .inl (hsl))), (mo_sizes, .inl (k 0, 4, .inl (hsz)))] sz (fun (r : Int32) (u : Unit) => r = A_count what) (fun (u : Unit) => []) := by
  refine Met.ofW (cc := cX8_count) (maxL := 2) (ret := (some .int)) (by decide) rfl ?_
  intro p e s m args below meth c s₁ B hml hv
  obtain ⟨rfl, hsz, hP, hK, hD0, hN⟩ := hv
  have hx := B.exec
  have hb := B.bytes
  have hr := B.returns
  have hlocks := B.notSynchronized
  have hts := atoms_spec (ws := wsX8_count) B.pre
  have hown : s.vm.findClass RX8 = some m.cls := findClass_of_methodNamed B.named
  have hiX8 : ∀ w ∈ u_ws RX8 TX8 32, w ∈ wsX8_count := by decide +kernel
  have fl7 := hts (.fieldLink RX8 7 "HalfScalesModel" "st" "[I") (by decide +kernel)
  have fl16 := hts (.fieldLink RX8 16 "HalfScalesModel" "isKept" "[Z") (by decide +kernel)
  have fl75 := hts (.fieldLink RX8 75 "HalfScalesModel" "taped" "I") (by decide +kernel)
  have fl32 := hts (.fieldLink RX8 32 "HalfScalesModel" "lanes" "[I") (by decide +kernel)
  subst hsz
  have hD := hD0.self (sz := s.heap.size)
  generalize hAe : va_A [(mo, .inr (7, [.ref mo_st, .ref mo_at, .ref mo_isKept, .int 0, .int 2, .ref mo_draft, .int 0, .int 2, .int 0, .int (-4), .ref mo_tape, .int 0, .int 0, .int 0, .int 0, .int 0, .int 0, .int 0, .ref mo_row, .int 0, .int 0, .int 0, .int 0, .ref mo_before, .long 0, .long 0, .long 0, .ref mo_lanes, .ref mo_sizes, .ref mo_cells, .int 0, .ref mo_had])), (mo_st, .inl (k 0, 132, .inl (hst))), (mo_isKept, .inl (k 2, 2, .inl (hsz))), (mo_lanes, .inl (k 0, 4, .inl (hsl))), (mo_sizes, .inl (k 0, 4, .inl (hsz)))] s.heap.size = A at hD ⊢
  have hA : ∀ q : Nat, s.heap.size ≤ q → A q := fun q h => by rw [← hAe]; exact Or.inr h
  have hS : va_S A s.heap s.heap [] := va_S.rf
  have hl := lv_entry ([.ref mo, .int what]) (n := 2) (Nat.le_of_ble_eq_true rfl)
  rw [lg_entry_eq]
  generalize (lg_sl ([.ref mo, .int what]) ++ List.replicate (2 - (lg_sl ([.ref mo, .int what])).length) Slot.unset).toArray = ls at hl ⊢
  have hl : lv_has ls 2 [(0, .ref mo), (1, .int what)] := hl
  have hP : va_P D vwCl [(mo, .inr (7, [.ref mo_st, .ref mo_at, .ref mo_isKept, .int 0, .int 2, .ref mo_draft, .int 0, .int 2, .int 0, .int (-4), .ref mo_tape, .int 0, .int 0, .int 0, .int 0, .int 0, .int 0, .int 0, .ref mo_row, .int 0, .int 0, .int 0, .int 0, .ref mo_before, .long 0, .long 0, .long 0, .ref mo_lanes, .ref mo_sizes, .ref mo_cells, .int 0, .ref mo_had])), (mo_st, .inl (k 0, 132, .inl (hst))), (mo_isKept, .inl (k 2, 2, .inl (hsz))), (mo_lanes, .inl (k 0, 4, .inl (hsl))), (mo_sizes, .inl (k 0, 4, .inl (hsz)))] s.heap := hP
  refine lv_iload_n hx hb dX8_count_0 rfl (lv_at hl 1 rfl) ?_
  by_cases sw_1 : what = 0
  · subst sw_1
    refine lv_tableIn (off := 31) (tgt := 32) hx hb dX8_count_1 (by decide) (by decide) (by rfl) (by decide) ?_
    refine lv_aload_n hx hb dX8_count_32 rfl (lv_at hl 0 rfl) ?_
    refine va_get (D := D) (ci := 7) (v := .ref mo_st) (C := RX8) (T := TX8) (N := 32) hx hb hts hiX8 hown hK hP 0 rfl rfl 0 (by decide) fl7 (fun _ h9 => h9) rfl dX8_count_33 ?_
    refine lv_bipush (v := 25) hx hb dX8_count_36 (by decide) ?_
    refine va_iald hx hb hK hP 1 0 rfl rfl (hs_in (by decide)) dX8_count_38 ?_
    refine hs_topi 0 (by first | rfl | decide +kernel) ?_
    exact hs_iret hx hb hr hlocks hK hP hD hS () [] rfl (by decide) dX8_count_39 (by first | rfl | decide | (simp [A_count]; done))
  by_cases sw_2 : what = 1
  · subst sw_2
    refine lv_tableIn (off := 39) (tgt := 40) hx hb dX8_count_1 (by decide) (by decide) (by rfl) (by decide) ?_
    refine lv_aload_n hx hb dX8_count_40 rfl (lv_at hl 0 rfl) ?_
    refine va_get (D := D) (ci := 7) (v := .ref mo_isKept) (C := RX8) (T := TX8) (N := 32) hx hb hts hiX8 hown hK hP 0 rfl rfl 2 (by decide) fl16 (fun _ h9 => h9) rfl dX8_count_41 ?_
    refine lv_iconst (v := 0) hx hb dX8_count_44 (by decide) ?_
    refine va_zald hx hb hK hP 2 2 rfl rfl (hs_in (by decide)) dX8_count_45 ?_
    refine hs_topi 0 (by first | rfl | decide +kernel) ?_
    refine hs_pi (va_runS (As := [.int 0]) (rest := []) ⟨hx, hb, hml, hown, hts⟩ (m_flag0 l D k _ ) (va_cwS 1 hts gX8_count_X8_flag rfl rfl rfl (by decide +kernel) ⟨Nat.le_of_ble_eq_true rfl, Nat.le_of_ble_eq_true rfl⟩) (hs_preS hK hN (hs_subP (w := []) hP [] rfl) (hD.sub (ws' := []) [] (by decide) rfl)) rfl rfl hl.1 rfl (lv_room (Nat.le_of_ble_eq_true rfl)) dX8_count_46 ⟨Nat.le_of_ble_eq_true rfl, Nat.le_of_ble_eq_true rfl⟩) hP hD hS hA (fun r_3 u_5 H locs hw_4 hP hS => ?_)
    refine hs_topi 0 (hw_4.trans (by first | rfl | decide +kernel | rfl)) ?_
    refine lv_aload_n hx hb dX8_count_49 rfl (lv_at hl 0 rfl) ?_
    refine va_get (D := D) (ci := 7) (v := .ref mo_isKept) (C := RX8) (T := TX8) (N := 32) hx hb hts hiX8 hown hK hP 0 rfl rfl 2 (by decide) fl16 (fun _ h9 => h9) rfl dX8_count_50 ?_
    refine lv_iconst (v := 1) hx hb dX8_count_53 (by decide) ?_
    refine va_zald hx hb hK hP 2 2 rfl rfl (hs_in (by decide)) dX8_count_54 ?_
    refine hs_topi 0 (by first | rfl | decide +kernel) ?_
    refine hs_pi (va_runS (As := [.int 0]) (rest := [.int 0]) ⟨hx, hb, hml, hown, hts⟩ (m_flag0 l D k _ ) (va_cwS 1 hts gX8_count_X8_flag rfl rfl rfl (by decide +kernel) ⟨Nat.le_of_ble_eq_true rfl, Nat.le_of_ble_eq_true rfl⟩) (hs_preS hK hN (hs_subP (w := []) hP [] rfl) (hD.sub (ws' := []) [] (by decide) rfl)) rfl rfl hl.1 rfl (lv_room (Nat.le_of_ble_eq_true rfl)) dX8_count_55 ⟨Nat.le_of_ble_eq_true rfl, Nat.le_of_ble_eq_true rfl⟩) hP hD hS hA (fun r_6 u_8 H locs hw_7 hP hS => ?_)
    refine hs_topi 0 (hw_7.trans (by first | rfl | decide +kernel | rfl)) ?_
    refine lv_iadd hx hb dX8_count_58 ?_
    refine hs_topi 0 (by first | rfl | decide +kernel) ?_
    exact hs_iret hx hb hr hlocks hK hP hD hS () [] rfl (by decide) dX8_count_59 (by first | rfl | decide | (simp [A_count]; done))
  by_cases sw_9 : what = 2
  · subst sw_9
    refine lv_tableIn (off := 59) (tgt := 60) hx hb dX8_count_1 (by decide) (by decide) (by rfl) (by decide) ?_
    refine lv_aload_n hx hb dX8_count_60 rfl (lv_at hl 0 rfl) ?_
    refine va_get (D := D) (ci := 7) (v := .int 0) (C := RX8) (T := TX8) (N := 32) hx hb hts hiX8 hown hK hP 0 rfl rfl 11 (by decide) fl75 (fun _ h9 => h9) rfl dX8_count_61 ?_
    exact hs_iret hx hb hr hlocks hK hP hD hS () [] rfl (by decide) dX8_count_64 (by first | rfl | decide | (simp [A_count]; done))
  by_cases sw_10 : what = 3
  · subst sw_10
    refine lv_tableIn (off := 64) (tgt := 65) hx hb dX8_count_1 (by decide) (by decide) (by rfl) (by decide) ?_
    refine lv_aload_n hx hb dX8_count_65 rfl (lv_at hl 0 rfl) ?_
    refine va_get (D := D) (ci := 7) (v := .ref mo_lanes) (C := RX8) (T := TX8) (N := 32) hx hb hts hiX8 hown hK hP 0 rfl rfl 27 (by decide) fl32 (fun _ h9 => h9) rfl dX8_count_66 ?_
    refine lv_iconst (v := 0) hx hb dX8_count_69 (by decide) ?_
    refine va_iald hx hb hK hP 3 0 rfl rfl (hs_in (by decide)) dX8_count_70 ?_
    refine hs_topi (-4) (by first | rfl | decide +kernel) ?_
    refine lv_bipush (v := (-4)) hx hb dX8_count_71 (by decide) ?_
    refine lv_icmp_ne (tgt := 81) hx hb dX8_count_73 (by decide) (fun c_11 => absurd c_11 (by decide)) (fun c_11 => ?_)
    refine lv_bipush (v := (-4)) hx hb dX8_count_76 (by decide) ?_
    refine lv_goto (tgt := 87) hx hb dX8_count_78 (by decide) ?_
    exact hs_iret hx hb hr hlocks hK hP hD hS () [] rfl (by decide) dX8_count_87 (by first | rfl | decide | (simp only [hsb_0, hsb_1] at c_11; simp [A_count, c_11]; done) | (simp [A_count, c_11]; done))
  refine lv_tableOut (tgt := 88) hx hb dX8_count_1 (by have z0 := lv_neT sw_1 (a := 0) rfl; have z1 := lv_neT sw_2 (a := 1) rfl; have z2 := lv_neT sw_9 (a := 2) rfl; have z3 := lv_neT sw_10 (a := 3) rfl; omega) (by decide) ?_
  refine lv_iconst (v := (-1)) hx hb dX8_count_88 (by decide) ?_
  exact hs_iret hx hb hr hlocks hK hP hD hS () [] rfl (by decide) dX8_count_89 (by first | rfl | decide | (simp only [hsb_0, hsb_1] at sw_1 sw_2 sw_9 sw_10; simp [A_count, sw_1, sw_2, sw_9, sw_10]; done) | (simp [A_count, sw_1, sw_2, sw_9, sw_10]; done))
