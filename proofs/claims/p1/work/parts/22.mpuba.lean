set_option maxHeartbeats 4000000 in
set_option maxRecDepth 100000 in
theorem q_feed (l : Launch) (D : va_G) (k : Nat → ClassId) (sz : Nat) (mo : Nat) (mo_st : Nat) (mo_at : Nat) (mo_isKept : Nat) (mo_draft : Nat) (mo_tape : Nat) (mo_row : Nat) (mo_before : Nat) (mo_lanes : Nat) (mo_sizes : Nat) (mo_cells : Nat) (mo_had : Nat) (ch : Int32)  : MI l yX8_feed wsX8_feed ({ frames := 1, cells := 0, slots := 0, locals := 25 }) D k [.ref mo, .int ch] [(mo, .inr (7, [.ref mo_st, .ref mo_at, .ref mo_isKept, .int 0, .int 2, .ref mo_draft, .int 0, .int 2, .int 0, .int (-4), .ref mo_tape, .int 0, .int 0, .int 0, .int 0, .int 0, .int 0, .int 0, .ref mo_row, .int 0, .int 0, .int 0, .int 0, .ref mo_before, .long 0, .long 0, .long 0, .ref mo_lanes, .ref mo_sizes, .ref mo_cells, .int 0, .ref mo_had])), (mo_tape, .inl (k 0, 160, .inl (hsz)))] sz (fun (r : Int32) (u : Unit) => r = A_feed ch) (fun (u : Unit) => []) := by
  refine Met.ofW (cc := cX8_feed) (maxL := 2) (ret := (some .int)) (by decide) rfl ?_
  intro p e s m args below meth c s₁ B hml hv
  obtain ⟨rfl, hsz, hP, hK, hD0, hN⟩ := hv
  have hx := B.exec
  have hb := B.bytes
  have hr := B.returns
  have hlocks := B.notSynchronized
  have hts := atoms_spec (ws := wsX8_feed) B.pre
  have hown : s.vm.findClass RX8 = some m.cls := findClass_of_methodNamed B.named
  have hiX8 : ∀ w ∈ u_ws RX8 TX8 32, w ∈ wsX8_feed := by decide +kernel
  have fl75 := hts (.fieldLink RX8 75 "HalfScalesModel" "taped" "I") (by decide +kernel)
  have fl23 := hts (.fieldLink RX8 23 "HalfScalesModel" "tape" "[I") (by decide +kernel)
  have kl69 := hts (.constantLong RX8 69 (127)) (by decide +kernel)
  subst hsz
  have hD := hD0.self (sz := s.heap.size)
  generalize hAe : va_A [(mo, .inr (7, [.ref mo_st, .ref mo_at, .ref mo_isKept, .int 0, .int 2, .ref mo_draft, .int 0, .int 2, .int 0, .int (-4), .ref mo_tape, .int 0, .int 0, .int 0, .int 0, .int 0, .int 0, .int 0, .ref mo_row, .int 0, .int 0, .int 0, .int 0, .ref mo_before, .long 0, .long 0, .long 0, .ref mo_lanes, .ref mo_sizes, .ref mo_cells, .int 0, .ref mo_had])), (mo_tape, .inl (k 0, 160, .inl (hsz)))] s.heap.size = A at hD ⊢
  have hA : ∀ q : Nat, s.heap.size ≤ q → A q := fun q h => by rw [← hAe]; exact Or.inr h
  have hS : va_S A s.heap s.heap [] := va_S.rf
  have hl := lv_entry ([.ref mo, .int ch]) (n := 2) (Nat.le_of_ble_eq_true rfl)
  rw [lg_entry_eq]
  generalize (lg_sl ([.ref mo, .int ch]) ++ List.replicate (2 - (lg_sl ([.ref mo, .int ch])).length) Slot.unset).toArray = ls at hl ⊢
  have hl : lv_has ls 2 [(0, .ref mo), (1, .int ch)] := hl
  have hP : va_P D vwCl [(mo, .inr (7, [.ref mo_st, .ref mo_at, .ref mo_isKept, .int 0, .int 2, .ref mo_draft, .int 0, .int 2, .int 0, .int (-4), .ref mo_tape, .int 0, .int 0, .int 0, .int 0, .int 0, .int 0, .int 0, .ref mo_row, .int 0, .int 0, .int 0, .int 0, .ref mo_before, .long 0, .long 0, .long 0, .ref mo_lanes, .ref mo_sizes, .ref mo_cells, .int 0, .ref mo_had])), (mo_tape, .inl (k 0, 160, .inl (hsz)))] s.heap := hP
  refine lv_iload_n hx hb dX8_feed_0 rfl (lv_at hl 1 rfl) ?_
  refine lv_i2l hx hb dX8_feed_1 rfl ?_
  refine lv_lconst (v := 0) hx hb dX8_feed_2 (by decide) ?_
  refine lv_ldc2 hx hb hown kl69 dX8_feed_3 ?_
  refine hs_pi (va_runS (As := [.long (((ch) : Int32).toInt64), .long 0, .long 127]) (rest := []) ⟨hx, hb, hml, hown, hts⟩ (m_in l D k _ ch 0 127) (va_cwS 3 hts gX8_feed_X8_in rfl rfl rfl (by decide +kernel) ⟨Nat.le_of_ble_eq_true rfl, Nat.le_of_ble_eq_true rfl⟩) (hs_preS hK hN (hs_subP (w := []) hP [] rfl) (hD.sub (ws' := []) [] (by decide) rfl)) rfl rfl hl.1 rfl (lv_room (Nat.le_of_ble_eq_true rfl)) dX8_feed_6 ⟨Nat.le_of_ble_eq_true rfl, Nat.le_of_ble_eq_true rfl⟩) hP hD hS hA (fun r_1 u_3 H locs hw_2 hP hS => ?_)
  refine hs_topi (hsb (hsin ch 0 127)) hw_2 ?_
  refine lv_if_ne (tgt := 14) hx hb dX8_feed_9 (by decide) (fun c_4 => ?_) (fun c_4 => ?_)
  · refine lv_aload_n hx hb dX8_feed_14 rfl (lv_at hl 0 rfl) ?_
    refine va_get (D := D) (ci := 7) (v := .int 0) (C := RX8) (T := TX8) (N := 32) hx hb hts hiX8 hown hK hP 0 rfl rfl 11 (by decide) fl75 (fun _ h9 => h9) rfl dX8_feed_15 ?_
    refine lv_sipush (v := 160) hx hb dX8_feed_18 (by decide) ?_
    refine lv_icmp_ne (tgt := 27) hx hb dX8_feed_21 (by decide) (fun c_5 => ?_) (fun c_5 => absurd c_5 (by decide))
    refine lv_aload_n hx hb dX8_feed_27 rfl (lv_at hl 0 rfl) ?_
    refine va_get (D := D) (ci := 7) (v := .ref mo_tape) (C := RX8) (T := TX8) (N := 32) hx hb hts hiX8 hown hK hP 0 rfl rfl 10 (by decide) fl23 (fun _ h9 => h9) rfl dX8_feed_28 ?_
    refine lv_aload_n hx hb dX8_feed_31 rfl (lv_at hl 0 rfl) ?_
    refine va_get (D := D) (ci := 7) (v := .int 0) (C := RX8) (T := TX8) (N := 32) hx hb hts hiX8 hown hK hP 0 rfl rfl 11 (by decide) fl75 (fun _ h9 => h9) rfl dX8_feed_32 ?_
    refine lv_iload_n hx hb dX8_feed_35 rfl (lv_at hl 1 rfl) ?_
    refine va_iast hx hb hK hP hD hS 1 0 rfl rfl (hs_in (by decide)) dX8_feed_36 (fun H locs hP hD hS => ?_)
    have hP : va_P D vwCl [(mo, .inr (7, [.ref mo_st, .ref mo_at, .ref mo_isKept, .int 0, .int 2, .ref mo_draft, .int 0, .int 2, .int 0, .int (-4), .ref mo_tape, .int 0, .int 0, .int 0, .int 0, .int 0, .int 0, .int 0, .ref mo_row, .int 0, .int 0, .int 0, .int 0, .ref mo_before, .long 0, .long 0, .long 0, .ref mo_lanes, .ref mo_sizes, .ref mo_cells, .int 0, .ref mo_had])), (mo_tape, .inl (k 0, 160, .inl (upd hsz 0 ch)))] H := hP
    have hD : va_D A [(mo, .inr (7, [.ref mo_st, .ref mo_at, .ref mo_isKept, .int 0, .int 2, .ref mo_draft, .int 0, .int 2, .int 0, .int (-4), .ref mo_tape, .int 0, .int 0, .int 0, .int 0, .int 0, .int 0, .int 0, .ref mo_row, .int 0, .int 0, .int 0, .int 0, .ref mo_before, .long 0, .long 0, .long 0, .ref mo_lanes, .ref mo_sizes, .ref mo_cells, .int 0, .ref mo_had])), (mo_tape, .inl (k 0, 160, .inl (upd hsz 0 ch)))] := hD
    refine lv_aload_n hx hb dX8_feed_37 rfl (lv_at hl 0 rfl) ?_
    refine lv_dup hx hb dX8_feed_38 rfl ?_
    refine va_get (D := D) (ci := 7) (v := .int 0) (C := RX8) (T := TX8) (N := 32) hx hb hts hiX8 hown hK hP 0 rfl rfl 11 (by decide) fl75 (fun _ h9 => h9) rfl dX8_feed_39 ?_
    refine lv_iconst (v := 1) hx hb dX8_feed_42 (by decide) ?_
    refine lv_iadd hx hb dX8_feed_43 ?_
    refine hs_topi 1 (by first | rfl | decide +kernel) ?_
    refine va_put (D := D) (ci := 7) (v := .int 1) (ty := .int) (C := RX8) (T := TX8) (N := 32) hx hb hts hiX8 tyX8 tyX8_ok nmX8 hown hK hP hD hS 0 rfl rfl 11 (by decide) fl75 (fun _ h9 => h9) rfl (by decide +kernel) rfl rfl (Nat.le_of_ble_eq_true rfl) dX8_feed_44 (fun H locs hP hD hS => ?_)
    have hP : va_P D vwCl [(mo, .inr (7, [.ref mo_st, .ref mo_at, .ref mo_isKept, .int 0, .int 2, .ref mo_draft, .int 0, .int 2, .int 0, .int (-4), .ref mo_tape, .int 1, .int 0, .int 0, .int 0, .int 0, .int 0, .int 0, .ref mo_row, .int 0, .int 0, .int 0, .int 0, .ref mo_before, .long 0, .long 0, .long 0, .ref mo_lanes, .ref mo_sizes, .ref mo_cells, .int 0, .ref mo_had])), (mo_tape, .inl (k 0, 160, .inl (upd hsz 0 ch)))] H := hP
    have hD : va_D A [(mo, .inr (7, [.ref mo_st, .ref mo_at, .ref mo_isKept, .int 0, .int 2, .ref mo_draft, .int 0, .int 2, .int 0, .int (-4), .ref mo_tape, .int 1, .int 0, .int 0, .int 0, .int 0, .int 0, .int 0, .ref mo_row, .int 0, .int 0, .int 0, .int 0, .ref mo_before, .long 0, .long 0, .long 0, .ref mo_lanes, .ref mo_sizes, .ref mo_cells, .int 0, .ref mo_had])), (mo_tape, .inl (k 0, 160, .inl (upd hsz 0 ch)))] := hD
    refine lv_aload_n hx hb dX8_feed_47 rfl (lv_at hl 0 rfl) ?_
    refine va_get (D := D) (ci := 7) (v := .int 1) (C := RX8) (T := TX8) (N := 32) hx hb hts hiX8 hown hK hP 0 rfl rfl 11 (by decide) fl75 (fun _ h9 => h9) rfl dX8_feed_48 ?_
    exact hs_iret hx hb hr hlocks hK hP hD hS () [] rfl (by decide) dX8_feed_51 (by first | rfl | decide | (simp only [hsb_0, hsb_1] at c_4 c_5; simp [A_feed, c_4, c_5]; done) | (simp [A_feed, c_4, c_5]; done))
  · refine lv_iconst (v := (-1)) hx hb dX8_feed_12 (by decide) ?_
    exact hs_iret hx hb hr hlocks hK hP hD hS () [] rfl (by decide) dX8_feed_13 (by first | rfl | decide | (simp only [hsb_0, hsb_1] at c_4; simp [A_feed, c_4]; done) | (simp [A_feed, c_4]; done))

set_option maxHeartbeats 4000000 in
set_option maxRecDepth 100000 in
theorem q_end (l : Launch) (D : va_G) (k : Nat → ClassId) (sz : Nat) (mo : Nat) (mo_st : Nat) (mo_at : Nat) (mo_isKept : Nat) (mo_draft : Nat) (mo_tape : Nat) (mo_row : Nat) (mo_before : Nat) (mo_lanes : Nat) (mo_sizes : Nat) (mo_cells : Nat) (mo_had : Nat) (n : Int32)  : MI l yX8_end wsX8_end ({ frames := 1, cells := 0, slots := 0, locals := 25 }) D k [.ref mo, .int n] [(mo, .inr (7, [.ref mo_st, .ref mo_at, .ref mo_isKept, .int 0, .int 2, .ref mo_draft, .int 0, .int 2, .int 0, .int (-4), .ref mo_tape, .int 0, .int 0, .int 0, .int 0, .int 0, .int 0, .int 0, .ref mo_row, .int 0, .int 0, .int 0, .int 0, .ref mo_before, .long 0, .long 0, .long 0, .ref mo_lanes, .ref mo_sizes, .ref mo_cells, .int 0, .ref mo_had]))] sz (fun (r : Int32) (u : Unit) => r = A_end n) (fun (u : Unit) => []) := by
  refine Met.ofW (cc := cX8_end) (maxL := 3) (ret := (some .int)) (by decide) rfl ?_
  intro p e s m args below meth c s₁ B hml hv
  obtain ⟨rfl, hsz, hP, hK, hD0, hN⟩ := hv
  have hx := B.exec
  have hb := B.bytes
  have hr := B.returns
  have hlocks := B.notSynchronized
  have hts := atoms_spec (ws := wsX8_end) B.pre
  have hown : s.vm.findClass RX8 = some m.cls := findClass_of_methodNamed B.named
  have hiX8 : ∀ w ∈ u_ws RX8 TX8 32, w ∈ wsX8_end := by decide +kernel
  have fl75 := hts (.fieldLink RX8 75 "HalfScalesModel" "taped" "I") (by decide +kernel)
  subst hsz
  have hD := hD0.self (sz := s.heap.size)
  generalize hAe : va_A [(mo, .inr (7, [.ref mo_st, .ref mo_at, .ref mo_isKept, .int 0, .int 2, .ref mo_draft, .int 0, .int 2, .int 0, .int (-4), .ref mo_tape, .int 0, .int 0, .int 0, .int 0, .int 0, .int 0, .int 0, .ref mo_row, .int 0, .int 0, .int 0, .int 0, .ref mo_before, .long 0, .long 0, .long 0, .ref mo_lanes, .ref mo_sizes, .ref mo_cells, .int 0, .ref mo_had]))] s.heap.size = A at hD ⊢
  have hA : ∀ q : Nat, s.heap.size ≤ q → A q := fun q h => by rw [← hAe]; exact Or.inr h
  have hS : va_S A s.heap s.heap [] := va_S.rf
  have hl := lv_entry ([.ref mo, .int n]) (n := 3) (Nat.le_of_ble_eq_true rfl)
  rw [lg_entry_eq]
  generalize (lg_sl ([.ref mo, .int n]) ++ List.replicate (3 - (lg_sl ([.ref mo, .int n])).length) Slot.unset).toArray = ls at hl ⊢
  have hl : lv_has ls 3 [(0, .ref mo), (1, .int n)] := hl
  have hP : va_P D vwCl [(mo, .inr (7, [.ref mo_st, .ref mo_at, .ref mo_isKept, .int 0, .int 2, .ref mo_draft, .int 0, .int 2, .int 0, .int (-4), .ref mo_tape, .int 0, .int 0, .int 0, .int 0, .int 0, .int 0, .int 0, .ref mo_row, .int 0, .int 0, .int 0, .int 0, .ref mo_before, .long 0, .long 0, .long 0, .ref mo_lanes, .ref mo_sizes, .ref mo_cells, .int 0, .ref mo_had]))] s.heap := hP
  refine lv_iload_n hx hb dX8_end_0 rfl (lv_at hl 1 rfl) ?_
  refine lv_i2l hx hb dX8_end_1 rfl ?_
  refine lv_lconst (v := 0) hx hb dX8_end_2 (by decide) ?_
  refine lv_aload_n hx hb dX8_end_3 rfl (lv_at hl 0 rfl) ?_
  refine va_get (D := D) (ci := 7) (v := .int 0) (C := RX8) (T := TX8) (N := 32) hx hb hts hiX8 hown hK hP 0 rfl rfl 11 (by decide) fl75 (fun _ h9 => h9) rfl dX8_end_4 ?_
  refine lv_i2l (v := 0) hx hb dX8_end_7 (by decide +kernel) ?_
  refine hs_pi (va_runS (As := [.long (((n) : Int32).toInt64), .long 0, .long 0]) (rest := []) ⟨hx, hb, hml, hown, hts⟩ (m_in l D k _ n 0 0) (va_cwS 3 hts gX8_end_X8_in rfl rfl rfl (by decide +kernel) ⟨Nat.le_of_ble_eq_true rfl, Nat.le_of_ble_eq_true rfl⟩) (hs_preS hK hN (hs_subP (w := []) hP [] rfl) (hD.sub (ws' := []) [] (by decide) rfl)) rfl rfl hl.1 rfl (lv_room (Nat.le_of_ble_eq_true rfl)) dX8_end_8 ⟨Nat.le_of_ble_eq_true rfl, Nat.le_of_ble_eq_true rfl⟩) hP hD hS hA (fun r_1 u_3 H locs hw_2 hP hS => ?_)
  refine hs_topi (hsb (hsin n 0 0)) hw_2 ?_
  refine lv_if_ne (tgt := 16) hx hb dX8_end_11 (by decide) (fun c_4 => ?_) (fun c_4 => ?_)
  · obtain rfl : n = 0 := hs_one (hs_nb c_4)
    refine lv_aload_n hx hb dX8_end_16 rfl (lv_at hl 0 rfl) ?_
    refine va_get (D := D) (ci := 7) (v := .int 0) (C := RX8) (T := TX8) (N := 32) hx hb hts hiX8 hown hK hP 0 rfl rfl 11 (by decide) fl75 (fun _ h9 => h9) rfl dX8_end_17 ?_
    refine lv_istore_n (lv' := [(2, .int 0), (0, .ref mo), (1, .int 0)]) hx hb dX8_end_20 rfl hl (by decide) rfl (fun ls hl => ?_)
    refine lv_aload_n hx hb dX8_end_21 rfl (lv_at hl 1 rfl) ?_
    refine lv_iload_n hx hb dX8_end_22 rfl (lv_at hl 2 rfl) ?_
    refine va_put (D := D) (ci := 7) (v := .int 0) (ty := .int) (C := RX8) (T := TX8) (N := 32) hx hb hts hiX8 tyX8 tyX8_ok nmX8 hown hK hP hD hS 0 rfl rfl 11 (by decide) fl75 (fun _ h9 => h9) rfl (by decide +kernel) rfl rfl (Nat.le_of_ble_eq_true rfl) dX8_end_23 (fun H locs hP hD hS => ?_)
    have hP : va_P D vwCl [(mo, .inr (7, [.ref mo_st, .ref mo_at, .ref mo_isKept, .int 0, .int 2, .ref mo_draft, .int 0, .int 2, .int 0, .int (-4), .ref mo_tape, .int 0, .int 0, .int 0, .int 0, .int 0, .int 0, .int 0, .ref mo_row, .int 0, .int 0, .int 0, .int 0, .ref mo_before, .long 0, .long 0, .long 0, .ref mo_lanes, .ref mo_sizes, .ref mo_cells, .int 0, .ref mo_had]))] H := hP
    have hD : va_D A [(mo, .inr (7, [.ref mo_st, .ref mo_at, .ref mo_isKept, .int 0, .int 2, .ref mo_draft, .int 0, .int 2, .int 0, .int (-4), .ref mo_tape, .int 0, .int 0, .int 0, .int 0, .int 0, .int 0, .int 0, .ref mo_row, .int 0, .int 0, .int 0, .int 0, .ref mo_before, .long 0, .long 0, .long 0, .ref mo_lanes, .ref mo_sizes, .ref mo_cells, .int 0, .ref mo_had]))] := hD
    refine lv_iload_n hx hb dX8_end_26 rfl (lv_at hl 0 rfl) ?_
    exact hs_iret hx hb hr hlocks hK hP hD hS () [] rfl (by decide) dX8_end_27 (by first | rfl | decide | (simp only [hsb_0, hsb_1] at c_4; simp [A_end, c_4]; done) | (simp [A_end, c_4]; done))
  · refine lv_iconst (v := (-1)) hx hb dX8_end_14 (by decide) ?_
    exact hs_iret hx hb hr hlocks hK hP hD hS () [] rfl (by decide) dX8_end_15 (by first | rfl | decide | (simp only [hsb_0, hsb_1] at c_4; simp [A_end, c_4]; done) | (simp [A_end, c_4]; done))

set_option maxHeartbeats 4000000 in
set_option maxRecDepth 100000 in
theorem q_text (l : Launch) (D : va_G) (k : Nat → ClassId) (sz : Nat) (mo : Nat) (mo_st : Nat) (mo_at : Nat) (mo_isKept : Nat) (mo_draft : Nat) (mo_tape : Nat) (mo_row : Nat) (mo_before : Nat) (mo_lanes : Nat) (mo_sizes : Nat) (mo_cells : Nat) (mo_had : Nat)  : MI l yX8_text wsX8_text ({ frames := 2, cells := 0, slots := 0, locals := 49 }) D k [.ref mo] [(mo, .inr (7, [.ref mo_st, .ref mo_at, .ref mo_isKept, .int 0, .int 2, .ref mo_draft, .int 0, .int 2, .int 0, .int (-4), .ref mo_tape, .int 0, .int 0, .int 0, .int 0, .int 0, .int 0, .int 0, .ref mo_row, .int 0, .int 0, .int 0, .int 0, .ref mo_before, .long 0, .long 0, .long 0, .ref mo_lanes, .ref mo_sizes, .ref mo_cells, .int 0, .ref mo_had])), (mo_st, .inl (k 0, 132, .inl (hst))), (mo_at, .inl (k 0, 44, .inl (hsz))), (mo_isKept, .inl (k 2, 2, .inl (hsz))), (mo_draft, .inl (k 0, 44, .inl (hst))), (mo_tape, .inl (k 0, 160, .inl (hsz))), (mo_row, .inl (k 0, 5, .inl (hsz))), (mo_before, .inl (k 0, 25, .inl (hsz)))] sz (fun (r : Int32) (u : Unit) => r = A_text) (fun (u : Unit) => []) := by
  refine Met.ofW (cc := cX8_text) (maxL := 3) (ret := (some .int)) (by decide) rfl ?_
  intro p e s m args below meth c s₁ B hml hv
  obtain ⟨rfl, hsz, hP, hK, hD0, hN⟩ := hv
  have hx := B.exec
  have hb := B.bytes
  have hr := B.returns
  have hlocks := B.notSynchronized
  have hts := atoms_spec (ws := wsX8_text) B.pre
  have hown : s.vm.findClass RX8 = some m.cls := findClass_of_methodNamed B.named
  have hiX8 : ∀ w ∈ u_ws RX8 TX8 32, w ∈ wsX8_text := by decide +kernel
  have fl78 := hts (.fieldLink RX8 78 "HalfScalesModel" "fault" "I") (by decide +kernel)
  have fl87 := hts (.fieldLink RX8 87 "HalfScalesModel" "pos" "I") (by decide +kernel)
  have fl101 := hts (.fieldLink RX8 101 "HalfScalesModel" "sort" "I") (by decide +kernel)
  have fl60 := hts (.fieldLink RX8 60 "HalfScalesModel" "highest" "I") (by decide +kernel)
  have fl54 := hts (.fieldLink RX8 54 "HalfScalesModel" "dHalves" "I") (by decide +kernel)
  have fl13 := hts (.fieldLink RX8 13 "HalfScalesModel" "at" "[I") (by decide +kernel)
  have fl20 := hts (.fieldLink RX8 20 "HalfScalesModel" "draft" "[I") (by decide +kernel)
  have fl149 := hts (.fieldLink RX8 149 "HalfScalesModel" "orderMany" "I") (by decide +kernel)
  have fl75 := hts (.fieldLink RX8 75 "HalfScalesModel" "taped" "I") (by decide +kernel)
  subst hsz
  have hD := hD0.self (sz := s.heap.size)
  generalize hAe : va_A [(mo, .inr (7, [.ref mo_st, .ref mo_at, .ref mo_isKept, .int 0, .int 2, .ref mo_draft, .int 0, .int 2, .int 0, .int (-4), .ref mo_tape, .int 0, .int 0, .int 0, .int 0, .int 0, .int 0, .int 0, .ref mo_row, .int 0, .int 0, .int 0, .int 0, .ref mo_before, .long 0, .long 0, .long 0, .ref mo_lanes, .ref mo_sizes, .ref mo_cells, .int 0, .ref mo_had])), (mo_st, .inl (k 0, 132, .inl (hst))), (mo_at, .inl (k 0, 44, .inl (hsz))), (mo_isKept, .inl (k 2, 2, .inl (hsz))), (mo_draft, .inl (k 0, 44, .inl (hst))), (mo_tape, .inl (k 0, 160, .inl (hsz))), (mo_row, .inl (k 0, 5, .inl (hsz))), (mo_before, .inl (k 0, 25, .inl (hsz)))] s.heap.size = A at hD ⊢
  have hA : ∀ q : Nat, s.heap.size ≤ q → A q := fun q h => by rw [← hAe]; exact Or.inr h
  have hS : va_S A s.heap s.heap [] := va_S.rf
  have hl := lv_entry ([.ref mo]) (n := 3) (Nat.le_of_ble_eq_true rfl)
  rw [lg_entry_eq]
  generalize (lg_sl ([.ref mo]) ++ List.replicate (3 - (lg_sl ([.ref mo])).length) Slot.unset).toArray = ls at hl ⊢
  have hl : lv_has ls 3 [(0, .ref mo)] := hl
  have hP : va_P D vwCl [(mo, .inr (7, [.ref mo_st, .ref mo_at, .ref mo_isKept, .int 0, .int 2, .ref mo_draft, .int 0, .int 2, .int 0, .int (-4), .ref mo_tape, .int 0, .int 0, .int 0, .int 0, .int 0, .int 0, .int 0, .ref mo_row, .int 0, .int 0, .int 0, .int 0, .ref mo_before, .long 0, .long 0, .long 0, .ref mo_lanes, .ref mo_sizes, .ref mo_cells, .int 0, .ref mo_had])), (mo_st, .inl (k 0, 132, .inl (hst))), (mo_at, .inl (k 0, 44, .inl (hsz))), (mo_isKept, .inl (k 2, 2, .inl (hsz))), (mo_draft, .inl (k 0, 44, .inl (hst))), (mo_tape, .inl (k 0, 160, .inl (hsz))), (mo_row, .inl (k 0, 5, .inl (hsz))), (mo_before, .inl (k 0, 25, .inl (hsz)))] s.heap := hP
  refine lv_iconst (v := 0) hx hb dX8_text_0 (by decide) ?_
  refine lv_istore_n (lv' := [(1, .int 0), (0, .ref mo)]) hx hb dX8_text_1 rfl hl (by decide) rfl (fun ls hl => ?_)
  refine lv_aload_n hx hb dX8_text_2 rfl (lv_at hl 1 rfl) ?_
  refine lv_iconst (v := 0) hx hb dX8_text_3 (by decide) ?_
  refine va_put (D := D) (ci := 7) (v := .int 0) (ty := .int) (C := RX8) (T := TX8) (N := 32) hx hb hts hiX8 tyX8 tyX8_ok nmX8 hown hK hP hD hS 0 rfl rfl 16 (by decide) fl78 (fun _ h9 => h9) rfl (by decide +kernel) rfl rfl (Nat.le_of_ble_eq_true rfl) dX8_text_4 (fun H locs hP hD hS => ?_)
  have hP : va_P D vwCl [(mo, .inr (7, [.ref mo_st, .ref mo_at, .ref mo_isKept, .int 0, .int 2, .ref mo_draft, .int 0, .int 2, .int 0, .int (-4), .ref mo_tape, .int 0, .int 0, .int 0, .int 0, .int 0, .int 0, .int 0, .ref mo_row, .int 0, .int 0, .int 0, .int 0, .ref mo_before, .long 0, .long 0, .long 0, .ref mo_lanes, .ref mo_sizes, .ref mo_cells, .int 0, .ref mo_had])), (mo_st, .inl (k 0, 132, .inl (hst))), (mo_at, .inl (k 0, 44, .inl (hsz))), (mo_isKept, .inl (k 2, 2, .inl (hsz))), (mo_draft, .inl (k 0, 44, .inl (hst))), (mo_tape, .inl (k 0, 160, .inl (hsz))), (mo_row, .inl (k 0, 5, .inl (hsz))), (mo_before, .inl (k 0, 25, .inl (hsz)))] H := hP
  have hD : va_D A [(mo, .inr (7, [.ref mo_st, .ref mo_at, .ref mo_isKept, .int 0, .int 2, .ref mo_draft, .int 0, .int 2, .int 0, .int (-4), .ref mo_tape, .int 0, .int 0, .int 0, .int 0, .int 0, .int 0, .int 0, .ref mo_row, .int 0, .int 0, .int 0, .int 0, .ref mo_before, .long 0, .long 0, .long 0, .ref mo_lanes, .ref mo_sizes, .ref mo_cells, .int 0, .ref mo_had])), (mo_st, .inl (k 0, 132, .inl (hst))), (mo_at, .inl (k 0, 44, .inl (hsz))), (mo_isKept, .inl (k 2, 2, .inl (hsz))), (mo_draft, .inl (k 0, 44, .inl (hst))), (mo_tape, .inl (k 0, 160, .inl (hsz))), (mo_row, .inl (k 0, 5, .inl (hsz))), (mo_before, .inl (k 0, 25, .inl (hsz)))] := hD
  refine lv_aload_n hx hb dX8_text_7 rfl (lv_at hl 1 rfl) ?_
  refine lv_iconst (v := 0) hx hb dX8_text_8 (by decide) ?_
  refine va_put (D := D) (ci := 7) (v := .int 0) (ty := .int) (C := RX8) (T := TX8) (N := 32) hx hb hts hiX8 tyX8 tyX8_ok nmX8 hown hK hP hD hS 0 rfl rfl 12 (by decide) fl87 (fun _ h9 => h9) rfl (by decide +kernel) rfl rfl (Nat.le_of_ble_eq_true rfl) dX8_text_9 (fun H locs hP hD hS => ?_)
  have hP : va_P D vwCl [(mo, .inr (7, [.ref mo_st, .ref mo_at, .ref mo_isKept, .int 0, .int 2, .ref mo_draft, .int 0, .int 2, .int 0, .int (-4), .ref mo_tape, .int 0, .int 0, .int 0, .int 0, .int 0, .int 0, .int 0, .ref mo_row, .int 0, .int 0, .int 0, .int 0, .ref mo_before, .long 0, .long 0, .long 0, .ref mo_lanes, .ref mo_sizes, .ref mo_cells, .int 0, .ref mo_had])), (mo_st, .inl (k 0, 132, .inl (hst))), (mo_at, .inl (k 0, 44, .inl (hsz))), (mo_isKept, .inl (k 2, 2, .inl (hsz))), (mo_draft, .inl (k 0, 44, .inl (hst))), (mo_tape, .inl (k 0, 160, .inl (hsz))), (mo_row, .inl (k 0, 5, .inl (hsz))), (mo_before, .inl (k 0, 25, .inl (hsz)))] H := hP
  have hD : va_D A [(mo, .inr (7, [.ref mo_st, .ref mo_at, .ref mo_isKept, .int 0, .int 2, .ref mo_draft, .int 0, .int 2, .int 0, .int (-4), .ref mo_tape, .int 0, .int 0, .int 0, .int 0, .int 0, .int 0, .int 0, .ref mo_row, .int 0, .int 0, .int 0, .int 0, .ref mo_before, .long 0, .long 0, .long 0, .ref mo_lanes, .ref mo_sizes, .ref mo_cells, .int 0, .ref mo_had])), (mo_st, .inl (k 0, 132, .inl (hst))), (mo_at, .inl (k 0, 44, .inl (hsz))), (mo_isKept, .inl (k 2, 2, .inl (hsz))), (mo_draft, .inl (k 0, 44, .inl (hst))), (mo_tape, .inl (k 0, 160, .inl (hsz))), (mo_row, .inl (k 0, 5, .inl (hsz))), (mo_before, .inl (k 0, 25, .inl (hsz)))] := hD
  refine lv_aload_n hx hb dX8_text_12 rfl (lv_at hl 1 rfl) ?_
  refine hs_cv (va_runV (As := []) (rest := []) ⟨hx, hb, hml, hown, hts⟩ (m_firstDraft_t l D k _ mo mo_st mo_at mo_isKept 0 2 mo_draft 0 2 0 (-4) mo_tape 0 0 0 0 0 0 0 mo_row 0 0 0 0 mo_before 0 0 0 mo_lanes mo_sizes mo_cells 0 mo_had) (cwV 0 hts gX8_text_X8_firstDraft rfl rfl rfl (by decide +kernel) ⟨Nat.le_of_ble_eq_true rfl, Nat.le_of_ble_eq_true rfl⟩) (hs_preV hK hN (hs_subP (w := [(mo, .inr (7, [.ref mo_st, .ref mo_at, .ref mo_isKept, .int 0, .int 2, .ref mo_draft, .int 0, .int 2, .int 0, .int (-4), .ref mo_tape, .int 0, .int 0, .int 0, .int 0, .int 0, .int 0, .int 0, .ref mo_row, .int 0, .int 0, .int 0, .int 0, .ref mo_before, .long 0, .long 0, .long 0, .ref mo_lanes, .ref mo_sizes, .ref mo_cells, .int 0, .ref mo_had])), (mo_draft, .inl (k 0, 44, .inl (hst)))]) hP [0, 4] rfl) (hD.sub (ws' := [(mo, .inr (7, [.ref mo_st, .ref mo_at, .ref mo_isKept, .int 0, .int 2, .ref mo_draft, .int 0, .int 2, .int 0, .int (-4), .ref mo_tape, .int 0, .int 0, .int 0, .int 0, .int 0, .int 0, .int 0, .ref mo_row, .int 0, .int 0, .int 0, .int 0, .ref mo_before, .long 0, .long 0, .long 0, .ref mo_lanes, .ref mo_sizes, .ref mo_cells, .int 0, .ref mo_had])), (mo_draft, .inl (k 0, 44, .inl (hst)))]) [0, 4] (by decide) rfl) (ci := 7) (q0 := 0) rfl rfl) rfl rfl hl.1 rfl (lv_room (Nat.le_of_ble_eq_true rfl)) dX8_text_13 ⟨Nat.le_of_ble_eq_true rfl, Nat.le_of_ble_eq_true rfl⟩) hP hD hS hA [0, 4] [1, 2, 3, 5, 6, 7] [(mo_st, .inl (k 0, 132, .inl (hst))), (mo_at, .inl (k 0, 44, .inl (hsz))), (mo_isKept, .inl (k 2, 2, .inl (hsz))), (mo_tape, .inl (k 0, 160, .inl (hsz))), (mo_row, .inl (k 0, 5, .inl (hsz))), (mo_before, .inl (k 0, 25, .inl (hsz)))] rfl rfl (by decide) (by decide) [6, 0, 1, 2, 7, 3, 4, 5] (fun u_3 => [(mo, .inr (7, [.ref mo_st, .ref mo_at, .ref mo_isKept, .int 0, .int 2, .ref mo_draft, .int 0, .int 2, .int 0, .int (-4), .ref mo_tape, .int 0, .int 0, .int 0, .int 0, .int 0, .int 0, .int 0, .ref mo_row, .int 0, .int 0, .int 0, .int 0, .ref mo_before, .long 0, .long 0, .long 0, .ref mo_lanes, .ref mo_sizes, .ref mo_cells, .int 0, .ref mo_had])), (mo_st, .inl (k 0, 132, .inl (hst))), (mo_at, .inl (k 0, 44, .inl (hsz))), (mo_isKept, .inl (k 2, 2, .inl (hsz))), (mo_draft, .inl (k 0, 44, .inl (hst))), (mo_tape, .inl (k 0, 160, .inl (hsz))), (mo_row, .inl (k 0, 5, .inl (hsz))), (mo_before, .inl (k 0, 25, .inl (hsz)))]) (fun _ => rfl) (by decide) (fun u_3 H locs hw_2 hP hD hS => ?_)
  have hP : va_P D vwCl [(mo, .inr (7, [.ref mo_st, .ref mo_at, .ref mo_isKept, .int 0, .int 2, .ref mo_draft, .int 0, .int 2, .int 0, .int (-4), .ref mo_tape, .int 0, .int 0, .int 0, .int 0, .int 0, .int 0, .int 0, .ref mo_row, .int 0, .int 0, .int 0, .int 0, .ref mo_before, .long 0, .long 0, .long 0, .ref mo_lanes, .ref mo_sizes, .ref mo_cells, .int 0, .ref mo_had])), (mo_st, .inl (k 0, 132, .inl (hst))), (mo_at, .inl (k 0, 44, .inl (hsz))), (mo_isKept, .inl (k 2, 2, .inl (hsz))), (mo_draft, .inl (k 0, 44, .inl (hst))), (mo_tape, .inl (k 0, 160, .inl (hsz))), (mo_row, .inl (k 0, 5, .inl (hsz))), (mo_before, .inl (k 0, 25, .inl (hsz)))] H := hP
  have hD : va_D A [(mo, .inr (7, [.ref mo_st, .ref mo_at, .ref mo_isKept, .int 0, .int 2, .ref mo_draft, .int 0, .int 2, .int 0, .int (-4), .ref mo_tape, .int 0, .int 0, .int 0, .int 0, .int 0, .int 0, .int 0, .ref mo_row, .int 0, .int 0, .int 0, .int 0, .ref mo_before, .long 0, .long 0, .long 0, .ref mo_lanes, .ref mo_sizes, .ref mo_cells, .int 0, .ref mo_had])), (mo_st, .inl (k 0, 132, .inl (hst))), (mo_at, .inl (k 0, 44, .inl (hsz))), (mo_isKept, .inl (k 2, 2, .inl (hsz))), (mo_draft, .inl (k 0, 44, .inl (hst))), (mo_tape, .inl (k 0, 160, .inl (hsz))), (mo_row, .inl (k 0, 5, .inl (hsz))), (mo_before, .inl (k 0, 25, .inl (hsz)))] := hD
  refine lv_aload_n hx hb dX8_text_16 rfl (lv_at hl 1 rfl) ?_
  refine hs_cv (va_runV (As := []) (rest := []) ⟨hx, hb, hml, hown, hts⟩ (m_takes0 l D k _ mo mo_st mo_at mo_isKept 0 2 mo_draft 0 2 0 (-4) mo_tape 0 0 0 0 mo_row 0 0 0 0 mo_before 0 0 0 mo_lanes mo_sizes mo_cells 0 mo_had) (cwV 0 hts gX8_text_X8_takes rfl rfl rfl (by decide +kernel) ⟨Nat.le_of_ble_eq_true rfl, Nat.le_of_ble_eq_true rfl⟩) (hs_preV hK hN (hs_subP (w := [(mo, .inr (7, [.ref mo_st, .ref mo_at, .ref mo_isKept, .int 0, .int 2, .ref mo_draft, .int 0, .int 2, .int 0, .int (-4), .ref mo_tape, .int 0, .int 0, .int 0, .int 0, .int 0, .int 0, .int 0, .ref mo_row, .int 0, .int 0, .int 0, .int 0, .ref mo_before, .long 0, .long 0, .long 0, .ref mo_lanes, .ref mo_sizes, .ref mo_cells, .int 0, .ref mo_had]))]) hP [0] rfl) (hD.sub (ws' := [(mo, .inr (7, [.ref mo_st, .ref mo_at, .ref mo_isKept, .int 0, .int 2, .ref mo_draft, .int 0, .int 2, .int 0, .int (-4), .ref mo_tape, .int 0, .int 0, .int 0, .int 0, .int 0, .int 0, .int 0, .ref mo_row, .int 0, .int 0, .int 0, .int 0, .ref mo_before, .long 0, .long 0, .long 0, .ref mo_lanes, .ref mo_sizes, .ref mo_cells, .int 0, .ref mo_had]))]) [0] (by decide) rfl) (ci := 7) (q0 := 0) rfl rfl) rfl rfl hl.1 rfl (lv_room (Nat.le_of_ble_eq_true rfl)) dX8_text_17 ⟨Nat.le_of_ble_eq_true rfl, Nat.le_of_ble_eq_true rfl⟩) hP hD hS hA [0] [1, 2, 3, 4, 5, 6, 7] [(mo_st, .inl (k 0, 132, .inl (hst))), (mo_at, .inl (k 0, 44, .inl (hsz))), (mo_isKept, .inl (k 2, 2, .inl (hsz))), (mo_draft, .inl (k 0, 44, .inl (hst))), (mo_tape, .inl (k 0, 160, .inl (hsz))), (mo_row, .inl (k 0, 5, .inl (hsz))), (mo_before, .inl (k 0, 25, .inl (hsz)))] rfl rfl (by decide) (by decide) [7, 0, 1, 2, 3, 4, 5, 6] (fun u_6 => [(mo, .inr (7, [.ref mo_st, .ref mo_at, .ref mo_isKept, .int 0, .int 2, .ref mo_draft, .int 0, .int 2, .int 0, .int (-4), .ref mo_tape, .int 0, .int 0, .int 0, .int 0, .int 0, .int 0, .int 0, .ref mo_row, .int 0, .int 0, .int 0, .int 0, .ref mo_before, .long 0, .long 0, .long 0, .ref mo_lanes, .ref mo_sizes, .ref mo_cells, .int 0, .ref mo_had])), (mo_st, .inl (k 0, 132, .inl (hst))), (mo_at, .inl (k 0, 44, .inl (hsz))), (mo_isKept, .inl (k 2, 2, .inl (hsz))), (mo_draft, .inl (k 0, 44, .inl (hst))), (mo_tape, .inl (k 0, 160, .inl (hsz))), (mo_row, .inl (k 0, 5, .inl (hsz))), (mo_before, .inl (k 0, 25, .inl (hsz)))]) (fun _ => rfl) (by decide) (fun u_6 H locs hw_5 hP hD hS => ?_)
  have hP : va_P D vwCl [(mo, .inr (7, [.ref mo_st, .ref mo_at, .ref mo_isKept, .int 0, .int 2, .ref mo_draft, .int 0, .int 2, .int 0, .int (-4), .ref mo_tape, .int 0, .int 0, .int 0, .int 0, .int 0, .int 0, .int 0, .ref mo_row, .int 0, .int 0, .int 0, .int 0, .ref mo_before, .long 0, .long 0, .long 0, .ref mo_lanes, .ref mo_sizes, .ref mo_cells, .int 0, .ref mo_had])), (mo_st, .inl (k 0, 132, .inl (hst))), (mo_at, .inl (k 0, 44, .inl (hsz))), (mo_isKept, .inl (k 2, 2, .inl (hsz))), (mo_draft, .inl (k 0, 44, .inl (hst))), (mo_tape, .inl (k 0, 160, .inl (hsz))), (mo_row, .inl (k 0, 5, .inl (hsz))), (mo_before, .inl (k 0, 25, .inl (hsz)))] H := hP
  have hD : va_D A [(mo, .inr (7, [.ref mo_st, .ref mo_at, .ref mo_isKept, .int 0, .int 2, .ref mo_draft, .int 0, .int 2, .int 0, .int (-4), .ref mo_tape, .int 0, .int 0, .int 0, .int 0, .int 0, .int 0, .int 0, .ref mo_row, .int 0, .int 0, .int 0, .int 0, .ref mo_before, .long 0, .long 0, .long 0, .ref mo_lanes, .ref mo_sizes, .ref mo_cells, .int 0, .ref mo_had])), (mo_st, .inl (k 0, 132, .inl (hst))), (mo_at, .inl (k 0, 44, .inl (hsz))), (mo_isKept, .inl (k 2, 2, .inl (hsz))), (mo_draft, .inl (k 0, 44, .inl (hst))), (mo_tape, .inl (k 0, 160, .inl (hsz))), (mo_row, .inl (k 0, 5, .inl (hsz))), (mo_before, .inl (k 0, 25, .inl (hsz)))] := hD
  refine lv_aload_n hx hb dX8_text_20 rfl (lv_at hl 1 rfl) ?_
  refine va_get (D := D) (ci := 7) (v := .int 0) (C := RX8) (T := TX8) (N := 32) hx hb hts hiX8 hown hK hP 0 rfl rfl 16 (by decide) fl78 (fun _ h9 => h9) rfl dX8_text_21 ?_
  refine lv_if_ne (tgt := 44) hx hb dX8_text_24 (by decide) (fun c_7 => absurd c_7 (by decide)) (fun c_7 => ?_)
  refine lv_aload_n hx hb dX8_text_27 rfl (lv_at hl 1 rfl) ?_
  refine va_get (D := D) (ci := 7) (v := .int 0) (C := RX8) (T := TX8) (N := 32) hx hb hts hiX8 hown hK hP 0 rfl rfl 14 (by decide) fl101 (fun _ h9 => h9) rfl dX8_text_28 ?_
  refine lv_if_eq (tgt := 44) hx hb dX8_text_31 (by decide) (fun c_8 => ?_) (fun c_8 => absurd c_8 (by decide))
  refine lv_aload_n hx hb dX8_text_44 rfl (lv_at hl 1 rfl) ?_
  refine va_get (D := D) (ci := 7) (v := .int 0) (C := RX8) (T := TX8) (N := 32) hx hb hts hiX8 hown hK hP 0 rfl rfl 16 (by decide) fl78 (fun _ h9 => h9) rfl dX8_text_45 ?_
  refine lv_if_ne (tgt := 73) hx hb dX8_text_48 (by decide) (fun c_9 => absurd c_9 (by decide)) (fun c_9 => ?_)
  refine lv_aload_n hx hb dX8_text_51 rfl (lv_at hl 1 rfl) ?_
  refine lv_aload_n hx hb dX8_text_52 rfl (lv_at hl 1 rfl) ?_
  refine va_get (D := D) (ci := 7) (v := .int (-4)) (C := RX8) (T := TX8) (N := 32) hx hb hts hiX8 hown hK hP 0 rfl rfl 9 (by decide) fl60 (fun _ h9 => h9) rfl dX8_text_53 ?_
  refine lv_aload_n hx hb dX8_text_56 rfl (lv_at hl 1 rfl) ?_
  refine va_get (D := D) (ci := 7) (v := .int 2) (C := RX8) (T := TX8) (N := 32) hx hb hts hiX8 hown hK hP 0 rfl rfl 7 (by decide) fl54 (fun _ h9 => h9) rfl dX8_text_57 ?_
  refine lv_icmp_ge (tgt := 67) hx hb dX8_text_60 (by decide) (fun c_10 => absurd c_10 (by decide)) (fun c_10 => ?_)
  refine lv_iconst (v := 1) hx hb dX8_text_63 (by decide) ?_
  refine lv_goto (tgt := 68) hx hb dX8_text_64 (by decide) ?_
  refine lv_bipush (v := 6) hx hb dX8_text_68 (by decide) ?_
  refine hs_cv (va_runV (As := [.int 1, .int 6]) (rest := []) ⟨hx, hb, hml, hown, hts⟩ (m_needs1 l D k _ mo mo_st mo_at mo_isKept 0 2 mo_draft 0 2 0 (-4) mo_tape 0 0 0 0 0 0 0 mo_row 0 0 0 0 mo_before 0 0 0 mo_lanes mo_sizes mo_cells 0 mo_had 6) (cwV 2 hts gX8_text_X8_needs rfl rfl rfl (by decide +kernel) ⟨Nat.le_of_ble_eq_true rfl, Nat.le_of_ble_eq_true rfl⟩) (hs_preV hK hN (hs_subP (w := [(mo, .inr (7, [.ref mo_st, .ref mo_at, .ref mo_isKept, .int 0, .int 2, .ref mo_draft, .int 0, .int 2, .int 0, .int (-4), .ref mo_tape, .int 0, .int 0, .int 0, .int 0, .int 0, .int 0, .int 0, .ref mo_row, .int 0, .int 0, .int 0, .int 0, .ref mo_before, .long 0, .long 0, .long 0, .ref mo_lanes, .ref mo_sizes, .ref mo_cells, .int 0, .ref mo_had]))]) hP [0] rfl) (hD.sub (ws' := [(mo, .inr (7, [.ref mo_st, .ref mo_at, .ref mo_isKept, .int 0, .int 2, .ref mo_draft, .int 0, .int 2, .int 0, .int (-4), .ref mo_tape, .int 0, .int 0, .int 0, .int 0, .int 0, .int 0, .int 0, .ref mo_row, .int 0, .int 0, .int 0, .int 0, .ref mo_before, .long 0, .long 0, .long 0, .ref mo_lanes, .ref mo_sizes, .ref mo_cells, .int 0, .ref mo_had]))]) [0] (by decide) rfl) (ci := 7) (q0 := 0) rfl rfl) rfl rfl hl.1 rfl (lv_room (Nat.le_of_ble_eq_true rfl)) dX8_text_70 ⟨Nat.le_of_ble_eq_true rfl, Nat.le_of_ble_eq_true rfl⟩) hP hD hS hA [0] [1, 2, 3, 4, 5, 6, 7] [(mo_st, .inl (k 0, 132, .inl (hst))), (mo_at, .inl (k 0, 44, .inl (hsz))), (mo_isKept, .inl (k 2, 2, .inl (hsz))), (mo_draft, .inl (k 0, 44, .inl (hst))), (mo_tape, .inl (k 0, 160, .inl (hsz))), (mo_row, .inl (k 0, 5, .inl (hsz))), (mo_before, .inl (k 0, 25, .inl (hsz)))] rfl rfl (by decide) (by decide) [7, 0, 1, 2, 3, 4, 5, 6] (fun u_13 => [(mo, .inr (7, [.ref mo_st, .ref mo_at, .ref mo_isKept, .int 0, .int 2, .ref mo_draft, .int 0, .int 2, .int 0, .int (-4), .ref mo_tape, .int 0, .int 0, .int 0, .int 0, .int 0, .int 0, .int 0, .ref mo_row, .int 0, .int 0, .int 0, .int 0, .ref mo_before, .long 0, .long 0, .long 0, .ref mo_lanes, .ref mo_sizes, .ref mo_cells, .int 0, .ref mo_had])), (mo_st, .inl (k 0, 132, .inl (hst))), (mo_at, .inl (k 0, 44, .inl (hsz))), (mo_isKept, .inl (k 2, 2, .inl (hsz))), (mo_draft, .inl (k 0, 44, .inl (hst))), (mo_tape, .inl (k 0, 160, .inl (hsz))), (mo_row, .inl (k 0, 5, .inl (hsz))), (mo_before, .inl (k 0, 25, .inl (hsz)))]) (fun _ => rfl) (by decide) (fun u_13 H locs hw_12 hP hD hS => ?_)
  have hP : va_P D vwCl [(mo, .inr (7, [.ref mo_st, .ref mo_at, .ref mo_isKept, .int 0, .int 2, .ref mo_draft, .int 0, .int 2, .int 0, .int (-4), .ref mo_tape, .int 0, .int 0, .int 0, .int 0, .int 0, .int 0, .int 0, .ref mo_row, .int 0, .int 0, .int 0, .int 0, .ref mo_before, .long 0, .long 0, .long 0, .ref mo_lanes, .ref mo_sizes, .ref mo_cells, .int 0, .ref mo_had])), (mo_st, .inl (k 0, 132, .inl (hst))), (mo_at, .inl (k 0, 44, .inl (hsz))), (mo_isKept, .inl (k 2, 2, .inl (hsz))), (mo_draft, .inl (k 0, 44, .inl (hst))), (mo_tape, .inl (k 0, 160, .inl (hsz))), (mo_row, .inl (k 0, 5, .inl (hsz))), (mo_before, .inl (k 0, 25, .inl (hsz)))] H := hP
  have hD : va_D A [(mo, .inr (7, [.ref mo_st, .ref mo_at, .ref mo_isKept, .int 0, .int 2, .ref mo_draft, .int 0, .int 2, .int 0, .int (-4), .ref mo_tape, .int 0, .int 0, .int 0, .int 0, .int 0, .int 0, .int 0, .ref mo_row, .int 0, .int 0, .int 0, .int 0, .ref mo_before, .long 0, .long 0, .long 0, .ref mo_lanes, .ref mo_sizes, .ref mo_cells, .int 0, .ref mo_had])), (mo_st, .inl (k 0, 132, .inl (hst))), (mo_at, .inl (k 0, 44, .inl (hsz))), (mo_isKept, .inl (k 2, 2, .inl (hsz))), (mo_draft, .inl (k 0, 44, .inl (hst))), (mo_tape, .inl (k 0, 160, .inl (hsz))), (mo_row, .inl (k 0, 5, .inl (hsz))), (mo_before, .inl (k 0, 25, .inl (hsz)))] := hD
  refine lv_aload_n hx hb dX8_text_73 rfl (lv_at hl 1 rfl) ?_
  refine va_get (D := D) (ci := 7) (v := .int 0) (C := RX8) (T := TX8) (N := 32) hx hb hts hiX8 hown hK hP 0 rfl rfl 16 (by decide) fl78 (fun _ h9 => h9) rfl dX8_text_74 ?_
  refine lv_if_ne (tgt := 132) hx hb dX8_text_77 (by decide) (fun c_14 => absurd c_14 (by decide)) (fun c_14 => ?_)
  refine lv_iconst (v := 0) hx hb dX8_text_80 (by decide) ?_
  refine lv_istore_n (lv' := [(2, .int 0), (1, .int 0), (0, .ref mo)]) hx hb dX8_text_81 rfl hl (by decide) rfl (fun ls hl => ?_)
  refine hs_for 44 (fun i => [(mo, .inr (7, [.ref mo_st, .ref mo_at, .ref mo_isKept, .int 0, .int 2, .ref mo_draft, .int 0, .int 2, .int 0, .int (-4), .ref mo_tape, .int 0, .int 0, .int 0, .int 0, .int 0, .int 0, .int 0, .ref mo_row, .int 0, .int 0, .int 0, .int 0, .ref mo_before, .long 0, .long 0, .long 0, .ref mo_lanes, .ref mo_sizes, .ref mo_cells, .int 0, .ref mo_had])), (mo_st, .inl (k 0, 132, .inl (hst))), (mo_at, .inl (k 0, 44, .inl (hsfill hst hsz i))), (mo_isKept, .inl (k 2, 2, .inl (hsz))), (mo_draft, .inl (k 0, 44, .inl (hst))), (mo_tape, .inl (k 0, 160, .inl (hsz))), (mo_row, .inl (k 0, 5, .inl (hsz))), (mo_before, .inl (k 0, 25, .inl (hsz)))]) (fun i => [(2, .int (nI i)), (1, .int 0), (0, .ref mo)]) ?_ ?_ (by rw [hsfill_0]; exact hP) (by rw [hsfill_0]; exact hD) hS hl
  · intro i hi ih H locs ls hP hD hS hl
    refine lv_iload_n hx hb dX8_text_82 rfl (lv_at hl 0 rfl) ?_
    refine lv_bipush (v := 44) hx hb dX8_text_83 (by decide) ?_
    refine lv_icmp_ge (tgt := 106) hx hb dX8_text_85 (by decide) (fun c_15 => absurd c_15 (nI_ge (show i < 44 by omega) (by decide))) (fun c_15 => ?_)
    refine lv_aload_n hx hb dX8_text_88 rfl (lv_at hl 2 rfl) ?_
    refine va_get (D := D) (ci := 7) (v := .ref mo_at) (C := RX8) (T := TX8) (N := 32) hx hb hts hiX8 hown hK hP 0 rfl rfl 1 (by decide) fl13 (fun _ h9 => h9) rfl dX8_text_89 ?_
    refine lv_iload_n hx hb dX8_text_92 rfl (lv_at hl 0 rfl) ?_
    refine lv_aload_n hx hb dX8_text_93 rfl (lv_at hl 2 rfl) ?_
    refine va_get (D := D) (ci := 7) (v := .ref mo_draft) (C := RX8) (T := TX8) (N := 32) hx hb hts hiX8 hown hK hP 0 rfl rfl 5 (by decide) fl20 (fun _ h9 => h9) rfl dX8_text_94 ?_
    refine lv_iload_n hx hb dX8_text_97 rfl (lv_at hl 0 rfl) ?_
    refine va_iald hx hb hK hP 4 0 rfl rfl (vp_in_nI (show i < 44 by omega) (by decide)) dX8_text_98 ?_
    refine va_iast hx hb hK hP hD hS 2 0 rfl rfl (vp_in_nI (show i < 44 by omega) (by decide)) dX8_text_99 (fun H locs hP hD hS => ?_)
    have hE : upd (hsfill hst hsz i) ((nI i).toNatClampNeg) (hst (nI i).toNatClampNeg) = hsfill hst hsz (i + 1) := by rw [nI_clamp (show i < 2 ^ 31 by omega)]; exact hsfill_s hst hsz i
    have hP : va_P D vwCl [(mo, .inr (7, [.ref mo_st, .ref mo_at, .ref mo_isKept, .int 0, .int 2, .ref mo_draft, .int 0, .int 2, .int 0, .int (-4), .ref mo_tape, .int 0, .int 0, .int 0, .int 0, .int 0, .int 0, .int 0, .ref mo_row, .int 0, .int 0, .int 0, .int 0, .ref mo_before, .long 0, .long 0, .long 0, .ref mo_lanes, .ref mo_sizes, .ref mo_cells, .int 0, .ref mo_had])), (mo_st, .inl (k 0, 132, .inl (hst))), (mo_at, .inl (k 0, 44, .inl (upd (hsfill hst hsz i) ((nI i).toNatClampNeg) (hst (nI i).toNatClampNeg)))), (mo_isKept, .inl (k 2, 2, .inl (hsz))), (mo_draft, .inl (k 0, 44, .inl (hst))), (mo_tape, .inl (k 0, 160, .inl (hsz))), (mo_row, .inl (k 0, 5, .inl (hsz))), (mo_before, .inl (k 0, 25, .inl (hsz)))] H := hP
    have hD : va_D A [(mo, .inr (7, [.ref mo_st, .ref mo_at, .ref mo_isKept, .int 0, .int 2, .ref mo_draft, .int 0, .int 2, .int 0, .int (-4), .ref mo_tape, .int 0, .int 0, .int 0, .int 0, .int 0, .int 0, .int 0, .ref mo_row, .int 0, .int 0, .int 0, .int 0, .ref mo_before, .long 0, .long 0, .long 0, .ref mo_lanes, .ref mo_sizes, .ref mo_cells, .int 0, .ref mo_had])), (mo_st, .inl (k 0, 132, .inl (hst))), (mo_at, .inl (k 0, 44, .inl (upd (hsfill hst hsz i) ((nI i).toNatClampNeg) (hst (nI i).toNatClampNeg)))), (mo_isKept, .inl (k 2, 2, .inl (hsz))), (mo_draft, .inl (k 0, 44, .inl (hst))), (mo_tape, .inl (k 0, 160, .inl (hsz))), (mo_row, .inl (k 0, 5, .inl (hsz))), (mo_before, .inl (k 0, 25, .inl (hsz)))] := hD
    rw [hE] at hP hD
    refine lv_iinc (v := nI (i + 1)) (lv' := [(2, .int (nI (i + 1))), (1, .int 0), (0, .ref mo)]) hx hb dX8_text_100 hl (k := 0) rfl (by rw [nI_succ]; rfl) (by decide) rfl (fun ls hl => ?_)
    refine lv_goto (tgt := 82) hx hb dX8_text_103 (by decide) ?_
    exact ih _ _ _ hP hD hS (lv_sub hl [0, 1, 2] rfl)
  · intro H locs ls hP hD hS hl
    have hE : hsfill hst hsz 44 = hst := hsfill_st
    have hP : va_P D vwCl [(mo, .inr (7, [.ref mo_st, .ref mo_at, .ref mo_isKept, .int 0, .int 2, .ref mo_draft, .int 0, .int 2, .int 0, .int (-4), .ref mo_tape, .int 0, .int 0, .int 0, .int 0, .int 0, .int 0, .int 0, .ref mo_row, .int 0, .int 0, .int 0, .int 0, .ref mo_before, .long 0, .long 0, .long 0, .ref mo_lanes, .ref mo_sizes, .ref mo_cells, .int 0, .ref mo_had])), (mo_st, .inl (k 0, 132, .inl (hst))), (mo_at, .inl (k 0, 44, .inl (hsfill hst hsz 44))), (mo_isKept, .inl (k 2, 2, .inl (hsz))), (mo_draft, .inl (k 0, 44, .inl (hst))), (mo_tape, .inl (k 0, 160, .inl (hsz))), (mo_row, .inl (k 0, 5, .inl (hsz))), (mo_before, .inl (k 0, 25, .inl (hsz)))] H := hP
    have hD : va_D A [(mo, .inr (7, [.ref mo_st, .ref mo_at, .ref mo_isKept, .int 0, .int 2, .ref mo_draft, .int 0, .int 2, .int 0, .int (-4), .ref mo_tape, .int 0, .int 0, .int 0, .int 0, .int 0, .int 0, .int 0, .ref mo_row, .int 0, .int 0, .int 0, .int 0, .ref mo_before, .long 0, .long 0, .long 0, .ref mo_lanes, .ref mo_sizes, .ref mo_cells, .int 0, .ref mo_had])), (mo_st, .inl (k 0, 132, .inl (hst))), (mo_at, .inl (k 0, 44, .inl (hsfill hst hsz 44))), (mo_isKept, .inl (k 2, 2, .inl (hsz))), (mo_draft, .inl (k 0, 44, .inl (hst))), (mo_tape, .inl (k 0, 160, .inl (hsz))), (mo_row, .inl (k 0, 5, .inl (hsz))), (mo_before, .inl (k 0, 25, .inl (hsz)))] := hD
    rw [hE] at hP hD
    refine lv_iload_n hx hb dX8_text_82 rfl (lv_at hl 0 rfl) ?_
    refine lv_bipush (v := 44) hx hb dX8_text_83 (by decide) ?_
    refine lv_icmp_ge (tgt := 106) hx hb dX8_text_85 (by decide) (fun c_16 => ?_) (fun c_16 => absurd (show (44 : Int32) ≤ nI 44 by decide) c_16)
    refine lv_aload_n hx hb dX8_text_106 rfl (lv_at hl 2 rfl) ?_
    refine lv_aload_n hx hb dX8_text_107 rfl (lv_at hl 2 rfl) ?_
    refine va_get (D := D) (ci := 7) (v := .int 2) (C := RX8) (T := TX8) (N := 32) hx hb hts hiX8 hown hK hP 0 rfl rfl 7 (by decide) fl54 (fun _ h9 => h9) rfl dX8_text_108 ?_
    refine hs_cv (va_runV (As := [.int 2]) (rest := []) ⟨hx, hb, hml, hown, hts⟩ (m_findOrders0 l D k _ mo mo_st mo_at mo_isKept 0 2 mo_draft 0 2 0 (-4) mo_tape 0 0 0 0 0 0 0 mo_row 0 0 0 0 mo_before 0 0 0 mo_lanes mo_sizes mo_cells 0 mo_had) (cwV 1 hts gX8_text_X8_findOrders rfl rfl rfl (by decide +kernel) ⟨Nat.le_of_ble_eq_true rfl, Nat.le_of_ble_eq_true rfl⟩) (hs_preV hK hN (hs_subP (w := [(mo, .inr (7, [.ref mo_st, .ref mo_at, .ref mo_isKept, .int 0, .int 2, .ref mo_draft, .int 0, .int 2, .int 0, .int (-4), .ref mo_tape, .int 0, .int 0, .int 0, .int 0, .int 0, .int 0, .int 0, .ref mo_row, .int 0, .int 0, .int 0, .int 0, .ref mo_before, .long 0, .long 0, .long 0, .ref mo_lanes, .ref mo_sizes, .ref mo_cells, .int 0, .ref mo_had])), (mo_at, .inl (k 0, 44, .inl (hst))), (mo_row, .inl (k 0, 5, .inl (hsz))), (mo_before, .inl (k 0, 25, .inl (hsz)))]) hP [0, 2, 6, 7] rfl) (hD.sub (ws' := [(mo, .inr (7, [.ref mo_st, .ref mo_at, .ref mo_isKept, .int 0, .int 2, .ref mo_draft, .int 0, .int 2, .int 0, .int (-4), .ref mo_tape, .int 0, .int 0, .int 0, .int 0, .int 0, .int 0, .int 0, .ref mo_row, .int 0, .int 0, .int 0, .int 0, .ref mo_before, .long 0, .long 0, .long 0, .ref mo_lanes, .ref mo_sizes, .ref mo_cells, .int 0, .ref mo_had])), (mo_at, .inl (k 0, 44, .inl (hst))), (mo_row, .inl (k 0, 5, .inl (hsz))), (mo_before, .inl (k 0, 25, .inl (hsz)))]) [0, 2, 6, 7] (by decide) rfl) (ci := 7) (q0 := 0) rfl rfl) rfl rfl hl.1 rfl (lv_room (Nat.le_of_ble_eq_true rfl)) dX8_text_111 ⟨Nat.le_of_ble_eq_true rfl, Nat.le_of_ble_eq_true rfl⟩) hP hD hS hA [0, 2, 6, 7] [1, 3, 4, 5] [(mo_st, .inl (k 0, 132, .inl (hst))), (mo_isKept, .inl (k 2, 2, .inl (hsz))), (mo_draft, .inl (k 0, 44, .inl (hst))), (mo_tape, .inl (k 0, 160, .inl (hsz)))] rfl rfl (by decide) (by decide) [4, 0, 5, 1, 2, 3, 6, 7] (fun u_19 => [(mo, .inr (7, [.ref mo_st, .ref mo_at, .ref mo_isKept, .int 0, .int 2, .ref mo_draft, .int 0, .int 2, .int 0, .int (-4), .ref mo_tape, .int 0, .int 0, .int 0, .int 0, .int 0, .int 0, .int 0, .ref mo_row, .int 2, .int 1, .int 3, .int 3, .ref mo_before, .long 0, .long 0, .long 0, .ref mo_lanes, .ref mo_sizes, .ref mo_cells, .int 0, .ref mo_had])), (mo_st, .inl (k 0, 132, .inl (hst))), (mo_at, .inl (k 0, 44, .inl (hst))), (mo_isKept, .inl (k 2, 2, .inl (hsz))), (mo_draft, .inl (k 0, 44, .inl (hst))), (mo_tape, .inl (k 0, 160, .inl (hsz))), (mo_row, .inl (k 0, 5, .inl (upd (upd (upd (upd (upd (upd (upd (upd hsz 1 0) 0 0) 1 1) 0 0) 1 0) 0 1) 1 1) 0 1))), (mo_before, .inl (k 0, 25, .inl (upd (upd hsz 1 1) 5 1)))]) (fun _ => rfl) (by decide) (fun u_19 H locs hw_18 hP hD hS => ?_)
    have hP : va_P D vwCl [(mo, .inr (7, [.ref mo_st, .ref mo_at, .ref mo_isKept, .int 0, .int 2, .ref mo_draft, .int 0, .int 2, .int 0, .int (-4), .ref mo_tape, .int 0, .int 0, .int 0, .int 0, .int 0, .int 0, .int 0, .ref mo_row, .int 2, .int 1, .int 3, .int 3, .ref mo_before, .long 0, .long 0, .long 0, .ref mo_lanes, .ref mo_sizes, .ref mo_cells, .int 0, .ref mo_had])), (mo_st, .inl (k 0, 132, .inl (hst))), (mo_at, .inl (k 0, 44, .inl (hst))), (mo_isKept, .inl (k 2, 2, .inl (hsz))), (mo_draft, .inl (k 0, 44, .inl (hst))), (mo_tape, .inl (k 0, 160, .inl (hsz))), (mo_row, .inl (k 0, 5, .inl (upd (upd (upd (upd (upd (upd (upd (upd hsz 1 0) 0 0) 1 1) 0 0) 1 0) 0 1) 1 1) 0 1))), (mo_before, .inl (k 0, 25, .inl (upd (upd hsz 1 1) 5 1)))] H := hP
    have hD : va_D A [(mo, .inr (7, [.ref mo_st, .ref mo_at, .ref mo_isKept, .int 0, .int 2, .ref mo_draft, .int 0, .int 2, .int 0, .int (-4), .ref mo_tape, .int 0, .int 0, .int 0, .int 0, .int 0, .int 0, .int 0, .ref mo_row, .int 2, .int 1, .int 3, .int 3, .ref mo_before, .long 0, .long 0, .long 0, .ref mo_lanes, .ref mo_sizes, .ref mo_cells, .int 0, .ref mo_had])), (mo_st, .inl (k 0, 132, .inl (hst))), (mo_at, .inl (k 0, 44, .inl (hst))), (mo_isKept, .inl (k 2, 2, .inl (hsz))), (mo_draft, .inl (k 0, 44, .inl (hst))), (mo_tape, .inl (k 0, 160, .inl (hsz))), (mo_row, .inl (k 0, 5, .inl (upd (upd (upd (upd (upd (upd (upd (upd hsz 1 0) 0 0) 1 1) 0 0) 1 0) 0 1) 1 1) 0 1))), (mo_before, .inl (k 0, 25, .inl (upd (upd hsz 1 1) 5 1)))] := hD
    refine lv_aload_n hx hb dX8_text_114 rfl (lv_at hl 2 rfl) ?_
    refine lv_aload_n hx hb dX8_text_115 rfl (lv_at hl 2 rfl) ?_
    refine va_get (D := D) (ci := 7) (v := .int 2) (C := RX8) (T := TX8) (N := 32) hx hb hts hiX8 hown hK hP 0 rfl rfl 19 (by decide) fl149 (fun _ h9 => h9) rfl dX8_text_116 ?_
    refine lv_if_le (tgt := 126) hx hb dX8_text_119 (by decide) (fun c_20 => absurd c_20 (by decide)) (fun c_20 => ?_)
    refine lv_iconst (v := 1) hx hb dX8_text_122 (by decide) ?_
    refine lv_goto (tgt := 127) hx hb dX8_text_123 (by decide) ?_
    refine lv_bipush (v := 7) hx hb dX8_text_127 (by decide) ?_
    refine hs_cv (va_runV (As := [.int 1, .int 7]) (rest := []) ⟨hx, hb, hml, hown, hts⟩ (m_needs1 l D k _ mo mo_st mo_at mo_isKept 0 2 mo_draft 0 2 0 (-4) mo_tape 0 0 0 0 0 0 0 mo_row 2 1 3 3 mo_before 0 0 0 mo_lanes mo_sizes mo_cells 0 mo_had 7) (cwV 2 hts gX8_text_X8_needs rfl rfl rfl (by decide +kernel) ⟨Nat.le_of_ble_eq_true rfl, Nat.le_of_ble_eq_true rfl⟩) (hs_preV hK hN (hs_subP (w := [(mo, .inr (7, [.ref mo_st, .ref mo_at, .ref mo_isKept, .int 0, .int 2, .ref mo_draft, .int 0, .int 2, .int 0, .int (-4), .ref mo_tape, .int 0, .int 0, .int 0, .int 0, .int 0, .int 0, .int 0, .ref mo_row, .int 2, .int 1, .int 3, .int 3, .ref mo_before, .long 0, .long 0, .long 0, .ref mo_lanes, .ref mo_sizes, .ref mo_cells, .int 0, .ref mo_had]))]) hP [0] rfl) (hD.sub (ws' := [(mo, .inr (7, [.ref mo_st, .ref mo_at, .ref mo_isKept, .int 0, .int 2, .ref mo_draft, .int 0, .int 2, .int 0, .int (-4), .ref mo_tape, .int 0, .int 0, .int 0, .int 0, .int 0, .int 0, .int 0, .ref mo_row, .int 2, .int 1, .int 3, .int 3, .ref mo_before, .long 0, .long 0, .long 0, .ref mo_lanes, .ref mo_sizes, .ref mo_cells, .int 0, .ref mo_had]))]) [0] (by decide) rfl) (ci := 7) (q0 := 0) rfl rfl) rfl rfl hl.1 rfl (lv_room (Nat.le_of_ble_eq_true rfl)) dX8_text_129 ⟨Nat.le_of_ble_eq_true rfl, Nat.le_of_ble_eq_true rfl⟩) hP hD hS hA [0] [1, 2, 3, 4, 5, 6, 7] [(mo_st, .inl (k 0, 132, .inl (hst))), (mo_at, .inl (k 0, 44, .inl (hst))), (mo_isKept, .inl (k 2, 2, .inl (hsz))), (mo_draft, .inl (k 0, 44, .inl (hst))), (mo_tape, .inl (k 0, 160, .inl (hsz))), (mo_row, .inl (k 0, 5, .inl (upd (upd (upd (upd (upd (upd (upd (upd hsz 1 0) 0 0) 1 1) 0 0) 1 0) 0 1) 1 1) 0 1))), (mo_before, .inl (k 0, 25, .inl (upd (upd hsz 1 1) 5 1)))] rfl rfl (by decide) (by decide) [7, 0, 1, 2, 3, 4, 5, 6] (fun u_23 => [(mo, .inr (7, [.ref mo_st, .ref mo_at, .ref mo_isKept, .int 0, .int 2, .ref mo_draft, .int 0, .int 2, .int 0, .int (-4), .ref mo_tape, .int 0, .int 0, .int 0, .int 0, .int 0, .int 0, .int 0, .ref mo_row, .int 2, .int 1, .int 3, .int 3, .ref mo_before, .long 0, .long 0, .long 0, .ref mo_lanes, .ref mo_sizes, .ref mo_cells, .int 0, .ref mo_had])), (mo_st, .inl (k 0, 132, .inl (hst))), (mo_at, .inl (k 0, 44, .inl (hst))), (mo_isKept, .inl (k 2, 2, .inl (hsz))), (mo_draft, .inl (k 0, 44, .inl (hst))), (mo_tape, .inl (k 0, 160, .inl (hsz))), (mo_row, .inl (k 0, 5, .inl (upd (upd (upd (upd (upd (upd (upd (upd hsz 1 0) 0 0) 1 1) 0 0) 1 0) 0 1) 1 1) 0 1))), (mo_before, .inl (k 0, 25, .inl (upd (upd hsz 1 1) 5 1)))]) (fun _ => rfl) (by decide) (fun u_23 H locs hw_22 hP hD hS => ?_)
    have hP : va_P D vwCl [(mo, .inr (7, [.ref mo_st, .ref mo_at, .ref mo_isKept, .int 0, .int 2, .ref mo_draft, .int 0, .int 2, .int 0, .int (-4), .ref mo_tape, .int 0, .int 0, .int 0, .int 0, .int 0, .int 0, .int 0, .ref mo_row, .int 2, .int 1, .int 3, .int 3, .ref mo_before, .long 0, .long 0, .long 0, .ref mo_lanes, .ref mo_sizes, .ref mo_cells, .int 0, .ref mo_had])), (mo_st, .inl (k 0, 132, .inl (hst))), (mo_at, .inl (k 0, 44, .inl (hst))), (mo_isKept, .inl (k 2, 2, .inl (hsz))), (mo_draft, .inl (k 0, 44, .inl (hst))), (mo_tape, .inl (k 0, 160, .inl (hsz))), (mo_row, .inl (k 0, 5, .inl (upd (upd (upd (upd (upd (upd (upd (upd hsz 1 0) 0 0) 1 1) 0 0) 1 0) 0 1) 1 1) 0 1))), (mo_before, .inl (k 0, 25, .inl (upd (upd hsz 1 1) 5 1)))] H := hP
    have hD : va_D A [(mo, .inr (7, [.ref mo_st, .ref mo_at, .ref mo_isKept, .int 0, .int 2, .ref mo_draft, .int 0, .int 2, .int 0, .int (-4), .ref mo_tape, .int 0, .int 0, .int 0, .int 0, .int 0, .int 0, .int 0, .ref mo_row, .int 2, .int 1, .int 3, .int 3, .ref mo_before, .long 0, .long 0, .long 0, .ref mo_lanes, .ref mo_sizes, .ref mo_cells, .int 0, .ref mo_had])), (mo_st, .inl (k 0, 132, .inl (hst))), (mo_at, .inl (k 0, 44, .inl (hst))), (mo_isKept, .inl (k 2, 2, .inl (hsz))), (mo_draft, .inl (k 0, 44, .inl (hst))), (mo_tape, .inl (k 0, 160, .inl (hsz))), (mo_row, .inl (k 0, 5, .inl (upd (upd (upd (upd (upd (upd (upd (upd hsz 1 0) 0 0) 1 1) 0 0) 1 0) 0 1) 1 1) 0 1))), (mo_before, .inl (k 0, 25, .inl (upd (upd hsz 1 1) 5 1)))] := hD
    refine lv_aload_n hx hb dX8_text_132 rfl (lv_at hl 2 rfl) ?_
    refine lv_iconst (v := 0) hx hb dX8_text_133 (by decide) ?_
    refine va_put (D := D) (ci := 7) (v := .int 0) (ty := .int) (C := RX8) (T := TX8) (N := 32) hx hb hts hiX8 tyX8 tyX8_ok nmX8 hown hK hP hD hS 0 rfl rfl 11 (by decide) fl75 (fun _ h9 => h9) rfl (by decide +kernel) rfl rfl (Nat.le_of_ble_eq_true rfl) dX8_text_134 (fun H locs hP hD hS => ?_)
    have hP : va_P D vwCl [(mo, .inr (7, [.ref mo_st, .ref mo_at, .ref mo_isKept, .int 0, .int 2, .ref mo_draft, .int 0, .int 2, .int 0, .int (-4), .ref mo_tape, .int 0, .int 0, .int 0, .int 0, .int 0, .int 0, .int 0, .ref mo_row, .int 2, .int 1, .int 3, .int 3, .ref mo_before, .long 0, .long 0, .long 0, .ref mo_lanes, .ref mo_sizes, .ref mo_cells, .int 0, .ref mo_had])), (mo_st, .inl (k 0, 132, .inl (hst))), (mo_at, .inl (k 0, 44, .inl (hst))), (mo_isKept, .inl (k 2, 2, .inl (hsz))), (mo_draft, .inl (k 0, 44, .inl (hst))), (mo_tape, .inl (k 0, 160, .inl (hsz))), (mo_row, .inl (k 0, 5, .inl (upd (upd (upd (upd (upd (upd (upd (upd hsz 1 0) 0 0) 1 1) 0 0) 1 0) 0 1) 1 1) 0 1))), (mo_before, .inl (k 0, 25, .inl (upd (upd hsz 1 1) 5 1)))] H := hP
    have hD : va_D A [(mo, .inr (7, [.ref mo_st, .ref mo_at, .ref mo_isKept, .int 0, .int 2, .ref mo_draft, .int 0, .int 2, .int 0, .int (-4), .ref mo_tape, .int 0, .int 0, .int 0, .int 0, .int 0, .int 0, .int 0, .ref mo_row, .int 2, .int 1, .int 3, .int 3, .ref mo_before, .long 0, .long 0, .long 0, .ref mo_lanes, .ref mo_sizes, .ref mo_cells, .int 0, .ref mo_had])), (mo_st, .inl (k 0, 132, .inl (hst))), (mo_at, .inl (k 0, 44, .inl (hst))), (mo_isKept, .inl (k 2, 2, .inl (hsz))), (mo_draft, .inl (k 0, 44, .inl (hst))), (mo_tape, .inl (k 0, 160, .inl (hsz))), (mo_row, .inl (k 0, 5, .inl (upd (upd (upd (upd (upd (upd (upd (upd hsz 1 0) 0 0) 1 1) 0 0) 1 0) 0 1) 1 1) 0 1))), (mo_before, .inl (k 0, 25, .inl (upd (upd hsz 1 1) 5 1)))] := hD
    refine lv_aload_n hx hb dX8_text_137 rfl (lv_at hl 2 rfl) ?_
    refine va_get (D := D) (ci := 7) (v := .int 0) (C := RX8) (T := TX8) (N := 32) hx hb hts hiX8 hown hK hP 0 rfl rfl 16 (by decide) fl78 (fun _ h9 => h9) rfl dX8_text_138 ?_
    refine lv_if_le (tgt := 152) hx hb dX8_text_141 (by decide) (fun c_24 => ?_) (fun c_24 => absurd c_24 (by decide))
    refine lv_aload_n hx hb dX8_text_152 rfl (lv_at hl 2 rfl) ?_
    refine hs_cv (va_runV (As := []) (rest := []) ⟨hx, hb, hml, hown, hts⟩ (m_keepDraft_t l D k _ mo mo_st mo_at mo_isKept 0 2 mo_draft 0 2 0 (-4) mo_tape 0 0 0 0 0 0 0 mo_row 2 1 3 3 mo_before 0 0 0 mo_lanes mo_sizes mo_cells 0 mo_had) (cwV 0 hts gX8_text_X8_keepDraft rfl rfl rfl (by decide +kernel) ⟨Nat.le_of_ble_eq_true rfl, Nat.le_of_ble_eq_true rfl⟩) (hs_preV hK hN (hs_subP (w := [(mo, .inr (7, [.ref mo_st, .ref mo_at, .ref mo_isKept, .int 0, .int 2, .ref mo_draft, .int 0, .int 2, .int 0, .int (-4), .ref mo_tape, .int 0, .int 0, .int 0, .int 0, .int 0, .int 0, .int 0, .ref mo_row, .int 2, .int 1, .int 3, .int 3, .ref mo_before, .long 0, .long 0, .long 0, .ref mo_lanes, .ref mo_sizes, .ref mo_cells, .int 0, .ref mo_had])), (mo_st, .inl (k 0, 132, .inl (hst))), (mo_isKept, .inl (k 2, 2, .inl (hsz))), (mo_draft, .inl (k 0, 44, .inl (hst)))]) hP [0, 1, 3, 4] rfl) (hD.sub (ws' := [(mo, .inr (7, [.ref mo_st, .ref mo_at, .ref mo_isKept, .int 0, .int 2, .ref mo_draft, .int 0, .int 2, .int 0, .int (-4), .ref mo_tape, .int 0, .int 0, .int 0, .int 0, .int 0, .int 0, .int 0, .ref mo_row, .int 2, .int 1, .int 3, .int 3, .ref mo_before, .long 0, .long 0, .long 0, .ref mo_lanes, .ref mo_sizes, .ref mo_cells, .int 0, .ref mo_had])), (mo_st, .inl (k 0, 132, .inl (hst))), (mo_isKept, .inl (k 2, 2, .inl (hsz))), (mo_draft, .inl (k 0, 44, .inl (hst)))]) [0, 1, 3, 4] (by decide) rfl) (ci := 7) (q0 := 0) rfl rfl) rfl rfl hl.1 rfl (lv_room (Nat.le_of_ble_eq_true rfl)) dX8_text_153 ⟨Nat.le_of_ble_eq_true rfl, Nat.le_of_ble_eq_true rfl⟩) hP hD hS hA [0, 1, 3, 4] [2, 5, 6, 7] [(mo_at, .inl (k 0, 44, .inl (hst))), (mo_tape, .inl (k 0, 160, .inl (hsz))), (mo_row, .inl (k 0, 5, .inl (upd (upd (upd (upd (upd (upd (upd (upd hsz 1 0) 0 0) 1 1) 0 0) 1 0) 0 1) 1 1) 0 1))), (mo_before, .inl (k 0, 25, .inl (upd (upd hsz 1 1) 5 1)))] rfl rfl (by decide) (by decide) [4, 5, 0, 6, 7, 1, 2, 3] (fun u_27 => [(mo, .inr (7, [.ref mo_st, .ref mo_at, .ref mo_isKept, .int 0, .int 2, .ref mo_draft, .int 0, .int 2, .int 0, .int (-4), .ref mo_tape, .int 0, .int 0, .int 0, .int 0, .int 0, .int 0, .int 0, .ref mo_row, .int 2, .int 1, .int 3, .int 3, .ref mo_before, .long 0, .long 0, .long 0, .ref mo_lanes, .ref mo_sizes, .ref mo_cells, .int 0, .ref mo_had])), (mo_st, .inl (k 0, 132, .inl (hst))), (mo_at, .inl (k 0, 44, .inl (hst))), (mo_isKept, .inl (k 2, 2, .inl (hsz))), (mo_draft, .inl (k 0, 44, .inl (hst))), (mo_tape, .inl (k 0, 160, .inl (hsz))), (mo_row, .inl (k 0, 5, .inl (upd (upd (upd (upd (upd (upd (upd (upd hsz 1 0) 0 0) 1 1) 0 0) 1 0) 0 1) 1 1) 0 1))), (mo_before, .inl (k 0, 25, .inl (upd (upd hsz 1 1) 5 1)))]) (fun _ => rfl) (by decide) (fun u_27 H locs hw_26 hP hD hS => ?_)
    have hP : va_P D vwCl [(mo, .inr (7, [.ref mo_st, .ref mo_at, .ref mo_isKept, .int 0, .int 2, .ref mo_draft, .int 0, .int 2, .int 0, .int (-4), .ref mo_tape, .int 0, .int 0, .int 0, .int 0, .int 0, .int 0, .int 0, .ref mo_row, .int 2, .int 1, .int 3, .int 3, .ref mo_before, .long 0, .long 0, .long 0, .ref mo_lanes, .ref mo_sizes, .ref mo_cells, .int 0, .ref mo_had])), (mo_st, .inl (k 0, 132, .inl (hst))), (mo_at, .inl (k 0, 44, .inl (hst))), (mo_isKept, .inl (k 2, 2, .inl (hsz))), (mo_draft, .inl (k 0, 44, .inl (hst))), (mo_tape, .inl (k 0, 160, .inl (hsz))), (mo_row, .inl (k 0, 5, .inl (upd (upd (upd (upd (upd (upd (upd (upd hsz 1 0) 0 0) 1 1) 0 0) 1 0) 0 1) 1 1) 0 1))), (mo_before, .inl (k 0, 25, .inl (upd (upd hsz 1 1) 5 1)))] H := hP
    have hD : va_D A [(mo, .inr (7, [.ref mo_st, .ref mo_at, .ref mo_isKept, .int 0, .int 2, .ref mo_draft, .int 0, .int 2, .int 0, .int (-4), .ref mo_tape, .int 0, .int 0, .int 0, .int 0, .int 0, .int 0, .int 0, .ref mo_row, .int 2, .int 1, .int 3, .int 3, .ref mo_before, .long 0, .long 0, .long 0, .ref mo_lanes, .ref mo_sizes, .ref mo_cells, .int 0, .ref mo_had])), (mo_st, .inl (k 0, 132, .inl (hst))), (mo_at, .inl (k 0, 44, .inl (hst))), (mo_isKept, .inl (k 2, 2, .inl (hsz))), (mo_draft, .inl (k 0, 44, .inl (hst))), (mo_tape, .inl (k 0, 160, .inl (hsz))), (mo_row, .inl (k 0, 5, .inl (upd (upd (upd (upd (upd (upd (upd (upd hsz 1 0) 0 0) 1 1) 0 0) 1 0) 0 1) 1 1) 0 1))), (mo_before, .inl (k 0, 25, .inl (upd (upd hsz 1 1) 5 1)))] := hD
    refine lv_iload_n hx hb dX8_text_156 rfl (lv_at hl 1 rfl) ?_
    exact hs_iret hx hb hr hlocks hK hP hD hS () [] rfl (by decide) dX8_text_157 (by first | rfl | decide | (simp only [hsb_0, hsb_1] at c_7 c_8 c_9 c_10 c_14 c_16 c_20 c_24; simp [A_text, c_7, c_8, c_9, c_10, c_14, c_16, c_20, c_24]; done) | (simp [A_text, c_7, c_8, c_9, c_10, c_14, c_16, c_20, c_24]; done))

set_option maxHeartbeats 4000000 in
set_option maxRecDepth 100000 in
theorem q_fault (l : Launch) (D : va_G) (k : Nat → ClassId) (sz : Nat) (mo : Nat) (mo_st : Nat) (mo_at : Nat) (mo_isKept : Nat) (mo_draft : Nat) (mo_tape : Nat) (mo_row : Nat) (mo_before : Nat) (mo_lanes : Nat) (mo_sizes : Nat) (mo_cells : Nat) (mo_had : Nat)  : MI l yX8_fault wsX8_fault ({ frames := 0, cells := 0, slots := 0, locals := 0 }) D k [.ref mo] [(mo, .inr (7, [.ref mo_st, .ref mo_at, .ref mo_isKept, .int 0, .int 2, .ref mo_draft, .int 0, .int 2, .int 0, .int (-4), .ref mo_tape, .int 0, .int 0, .int 0, .int 0, .int 0, .int 0, .int 0, .ref mo_row, .int 0, .int 0, .int 0, .int 0, .ref mo_before, .long 0, .long 0, .long 0, .ref mo_lanes, .ref mo_sizes, .ref mo_cells, .int 0, .ref mo_had]))] sz (fun (r : Int32) (u : Unit) => r = A_fault) (fun (u : Unit) => []) := by
  refine Met.ofW (cc := cX8_fault) (maxL := 1) (ret := (some .int)) (by decide) rfl ?_
  intro p e s m args below meth c s₁ B hml hv
  obtain ⟨rfl, hsz, hP, hK, hD0, hN⟩ := hv
  have hx := B.exec
  have hb := B.bytes
  have hr := B.returns
  have hlocks := B.notSynchronized
  have hts := atoms_spec (ws := wsX8_fault) B.pre
  have hown : s.vm.findClass RX8 = some m.cls := findClass_of_methodNamed B.named
  have hiX8 : ∀ w ∈ u_ws RX8 TX8 32, w ∈ wsX8_fault := by decide +kernel
  have fl78 := hts (.fieldLink RX8 78 "HalfScalesModel" "fault" "I") (by decide +kernel)
  subst hsz
  have hD := hD0.self (sz := s.heap.size)
  generalize hAe : va_A [(mo, .inr (7, [.ref mo_st, .ref mo_at, .ref mo_isKept, .int 0, .int 2, .ref mo_draft, .int 0, .int 2, .int 0, .int (-4), .ref mo_tape, .int 0, .int 0, .int 0, .int 0, .int 0, .int 0, .int 0, .ref mo_row, .int 0, .int 0, .int 0, .int 0, .ref mo_before, .long 0, .long 0, .long 0, .ref mo_lanes, .ref mo_sizes, .ref mo_cells, .int 0, .ref mo_had]))] s.heap.size = A at hD ⊢
  have hA : ∀ q : Nat, s.heap.size ≤ q → A q := fun q h => by rw [← hAe]; exact Or.inr h
  have hS : va_S A s.heap s.heap [] := va_S.rf
  have hl := lv_entry ([.ref mo]) (n := 1) (Nat.le_of_ble_eq_true rfl)
  rw [lg_entry_eq]
  generalize (lg_sl ([.ref mo]) ++ List.replicate (1 - (lg_sl ([.ref mo])).length) Slot.unset).toArray = ls at hl ⊢
  have hl : lv_has ls 1 [(0, .ref mo)] := hl
  have hP : va_P D vwCl [(mo, .inr (7, [.ref mo_st, .ref mo_at, .ref mo_isKept, .int 0, .int 2, .ref mo_draft, .int 0, .int 2, .int 0, .int (-4), .ref mo_tape, .int 0, .int 0, .int 0, .int 0, .int 0, .int 0, .int 0, .ref mo_row, .int 0, .int 0, .int 0, .int 0, .ref mo_before, .long 0, .long 0, .long 0, .ref mo_lanes, .ref mo_sizes, .ref mo_cells, .int 0, .ref mo_had]))] s.heap := hP
  refine lv_aload_n hx hb dX8_fault_0 rfl (lv_at hl 0 rfl) ?_
  refine va_get (D := D) (ci := 7) (v := .int 0) (C := RX8) (T := TX8) (N := 32) hx hb hts hiX8 hown hK hP 0 rfl rfl 16 (by decide) fl78 (fun _ h9 => h9) rfl dX8_fault_1 ?_
  exact hs_iret hx hb hr hlocks hK hP hD hS () [] rfl (by decide) dX8_fault_4 (by first | rfl | decide | (simp [A_fault]; done))

set_option maxHeartbeats 4000000 in
set_option maxRecDepth 100000 in
theorem q_rule (l : Launch) (D : va_G) (k : Nat → ClassId) (sz : Nat) (mo : Nat) (mo_st : Nat) (mo_at : Nat) (mo_isKept : Nat) (mo_draft : Nat) (mo_tape : Nat) (mo_row : Nat) (mo_before : Nat) (mo_lanes : Nat) (mo_sizes : Nat) (mo_cells : Nat) (mo_had : Nat) (what : Int32)  : MI l yX8_rule wsX8_rule ({ frames := 1, cells := 0, slots := 0, locals := 22 }) D k [.ref mo, .int what] [(mo, .inr (7, [.ref mo_st, .ref mo_at, .ref mo_isKept, .int 0, .int 2, .ref mo_draft, .int 0, .int 2, .int 0, .int (-4), .ref mo_tape, .int 0, .int 0, .int 0, .int 0, .int 0, .int 0, .int 0, .ref mo_row, .int 0, .int 0, .int 0, .int 0, .ref mo_before, .long 0, .long 0, .long 0, .ref mo_lanes, .ref mo_sizes, .ref mo_cells, .int 0, .ref mo_had])), (mo_st, .inl (k 0, 132, .inl (hst))), (mo_at, .inl (k 0, 44, .inl (hsz)))] sz (fun (r : Int32) (u : Unit) => r = A_rule what) (fun (u : Unit) => []) := by
  refine Met.ofW (cc := cX8_rule) (maxL := 2) (ret := (some .int)) (by decide) rfl ?_
  intro p e s m args below meth c s₁ B hml hv
  obtain ⟨rfl, hsz, hP, hK, hD0, hN⟩ := hv
  have hx := B.exec
  have hb := B.bytes
  have hr := B.returns
  have hlocks := B.notSynchronized
  have hts := atoms_spec (ws := wsX8_rule) B.pre
  have hown : s.vm.findClass RX8 = some m.cls := findClass_of_methodNamed B.named
  have hiX8 : ∀ w ∈ u_ws RX8 TX8 32, w ∈ wsX8_rule := by decide +kernel
  have fl7 := hts (.fieldLink RX8 7 "HalfScalesModel" "st" "[I") (by decide +kernel)
  have fl63 := hts (.fieldLink RX8 63 "HalfScalesModel" "people" "I") (by decide +kernel)
  have fl66 := hts (.fieldLink RX8 66 "HalfScalesModel" "halfMany" "I") (by decide +kernel)
  subst hsz
  have hD := hD0.self (sz := s.heap.size)
  generalize hAe : va_A [(mo, .inr (7, [.ref mo_st, .ref mo_at, .ref mo_isKept, .int 0, .int 2, .ref mo_draft, .int 0, .int 2, .int 0, .int (-4), .ref mo_tape, .int 0, .int 0, .int 0, .int 0, .int 0, .int 0, .int 0, .ref mo_row, .int 0, .int 0, .int 0, .int 0, .ref mo_before, .long 0, .long 0, .long 0, .ref mo_lanes, .ref mo_sizes, .ref mo_cells, .int 0, .ref mo_had])), (mo_st, .inl (k 0, 132, .inl (hst))), (mo_at, .inl (k 0, 44, .inl (hsz)))] s.heap.size = A at hD ⊢
  have hA : ∀ q : Nat, s.heap.size ≤ q → A q := fun q h => by rw [← hAe]; exact Or.inr h
  have hS : va_S A s.heap s.heap [] := va_S.rf
  have hl := lv_entry ([.ref mo, .int what]) (n := 2) (Nat.le_of_ble_eq_true rfl)
  rw [lg_entry_eq]
  generalize (lg_sl ([.ref mo, .int what]) ++ List.replicate (2 - (lg_sl ([.ref mo, .int what])).length) Slot.unset).toArray = ls at hl ⊢
  have hl : lv_has ls 2 [(0, .ref mo), (1, .int what)] := hl
  have hP : va_P D vwCl [(mo, .inr (7, [.ref mo_st, .ref mo_at, .ref mo_isKept, .int 0, .int 2, .ref mo_draft, .int 0, .int 2, .int 0, .int (-4), .ref mo_tape, .int 0, .int 0, .int 0, .int 0, .int 0, .int 0, .int 0, .ref mo_row, .int 0, .int 0, .int 0, .int 0, .ref mo_before, .long 0, .long 0, .long 0, .ref mo_lanes, .ref mo_sizes, .ref mo_cells, .int 0, .ref mo_had])), (mo_st, .inl (k 0, 132, .inl (hst))), (mo_at, .inl (k 0, 44, .inl (hsz)))] s.heap := hP
  refine lv_aload_n hx hb dX8_rule_0 rfl (lv_at hl 0 rfl) ?_
  refine hs_cv (va_runV (As := []) (rest := []) ⟨hx, hb, hml, hown, hts⟩ (m_starts l D k _ mo mo_st mo_at mo_isKept 0 2 mo_draft 0 2 0 (-4) mo_tape 0 0 0 0 0 0 0 mo_row 0 0 0 0 mo_before 0 0 0 mo_lanes mo_sizes mo_cells 0 mo_had) (cwV 0 hts gX8_rule_X8_starts rfl rfl rfl (by decide +kernel) ⟨Nat.le_of_ble_eq_true rfl, Nat.le_of_ble_eq_true rfl⟩) (hs_preV hK hN (hs_subP (w := [(mo, .inr (7, [.ref mo_st, .ref mo_at, .ref mo_isKept, .int 0, .int 2, .ref mo_draft, .int 0, .int 2, .int 0, .int (-4), .ref mo_tape, .int 0, .int 0, .int 0, .int 0, .int 0, .int 0, .int 0, .ref mo_row, .int 0, .int 0, .int 0, .int 0, .ref mo_before, .long 0, .long 0, .long 0, .ref mo_lanes, .ref mo_sizes, .ref mo_cells, .int 0, .ref mo_had])), (mo_st, .inl (k 0, 132, .inl (hst))), (mo_at, .inl (k 0, 44, .inl (hsz)))]) hP [0, 1, 2] rfl) (hD.sub (ws' := [(mo, .inr (7, [.ref mo_st, .ref mo_at, .ref mo_isKept, .int 0, .int 2, .ref mo_draft, .int 0, .int 2, .int 0, .int (-4), .ref mo_tape, .int 0, .int 0, .int 0, .int 0, .int 0, .int 0, .int 0, .ref mo_row, .int 0, .int 0, .int 0, .int 0, .ref mo_before, .long 0, .long 0, .long 0, .ref mo_lanes, .ref mo_sizes, .ref mo_cells, .int 0, .ref mo_had])), (mo_st, .inl (k 0, 132, .inl (hst))), (mo_at, .inl (k 0, 44, .inl (hsz)))]) [0, 1, 2] (by decide) rfl) (ci := 7) (q0 := 0) rfl rfl) rfl rfl hl.1 rfl (lv_room (Nat.le_of_ble_eq_true rfl)) dX8_rule_1 ⟨Nat.le_of_ble_eq_true rfl, Nat.le_of_ble_eq_true rfl⟩) hP hD hS hA [0, 1, 2] [] [] rfl rfl (by decide) (by decide) [0, 1, 2] (fun u_3 => [(mo, .inr (7, [.ref mo_st, .ref mo_at, .ref mo_isKept, .int 0, .int 2, .ref mo_draft, .int 0, .int 2, .int 0, .int (-4), .ref mo_tape, .int 0, .int 0, .int 0, .int 0, .int 0, .int 0, .int 0, .ref mo_row, .int 0, .int 0, .int 0, .int 0, .ref mo_before, .long 0, .long 0, .long 0, .ref mo_lanes, .ref mo_sizes, .ref mo_cells, .int 0, .ref mo_had])), (mo_st, .inl (k 0, 132, .inl (hst))), (mo_at, .inl (k 0, 44, .inl (hst)))]) (fun _ => rfl) (by decide) (fun u_3 H locs hw_2 hP hD hS => ?_)
  have hP : va_P D vwCl [(mo, .inr (7, [.ref mo_st, .ref mo_at, .ref mo_isKept, .int 0, .int 2, .ref mo_draft, .int 0, .int 2, .int 0, .int (-4), .ref mo_tape, .int 0, .int 0, .int 0, .int 0, .int 0, .int 0, .int 0, .ref mo_row, .int 0, .int 0, .int 0, .int 0, .ref mo_before, .long 0, .long 0, .long 0, .ref mo_lanes, .ref mo_sizes, .ref mo_cells, .int 0, .ref mo_had])), (mo_st, .inl (k 0, 132, .inl (hst))), (mo_at, .inl (k 0, 44, .inl (hst)))] H := hP
  have hD : va_D A [(mo, .inr (7, [.ref mo_st, .ref mo_at, .ref mo_isKept, .int 0, .int 2, .ref mo_draft, .int 0, .int 2, .int 0, .int (-4), .ref mo_tape, .int 0, .int 0, .int 0, .int 0, .int 0, .int 0, .int 0, .ref mo_row, .int 0, .int 0, .int 0, .int 0, .ref mo_before, .long 0, .long 0, .long 0, .ref mo_lanes, .ref mo_sizes, .ref mo_cells, .int 0, .ref mo_had])), (mo_st, .inl (k 0, 132, .inl (hst))), (mo_at, .inl (k 0, 44, .inl (hst)))] := hD
  refine lv_iload_n hx hb dX8_rule_4 rfl (lv_at hl 1 rfl) ?_
  by_cases sw_4 : what = 0
  · subst sw_4
    refine lv_tableIn (off := 47) (tgt := 52) hx hb dX8_rule_5 (by decide) (by decide) (by rfl) (by decide) ?_
    refine lv_aload_n hx hb dX8_rule_52 rfl (lv_at hl 0 rfl) ?_
    refine va_get (D := D) (ci := 7) (v := .ref mo_st) (C := RX8) (T := TX8) (N := 32) hx hb hts hiX8 hown hK hP 0 rfl rfl 0 (by decide) fl7 (fun _ h9 => h9) rfl dX8_rule_53 ?_
    refine lv_iconst (v := 0) hx hb dX8_rule_56 (by decide) ?_
    refine va_iald hx hb hK hP 1 0 rfl rfl (hs_in (by decide)) dX8_rule_57 ?_
    refine hs_topi 2 (by first | rfl | decide +kernel) ?_
    exact hs_iret hx hb hr hlocks hK hP hD hS () [] rfl (by decide) dX8_rule_58 (by first | rfl | decide | (simp [A_rule]; done))
  by_cases sw_5 : what = 1
  · subst sw_5
    refine lv_tableIn (off := 54) (tgt := 59) hx hb dX8_rule_5 (by decide) (by decide) (by rfl) (by decide) ?_
    refine lv_aload_n hx hb dX8_rule_59 rfl (lv_at hl 0 rfl) ?_
    refine va_get (D := D) (ci := 7) (v := .int 0) (C := RX8) (T := TX8) (N := 32) hx hb hts hiX8 hown hK hP 0 rfl rfl 3 (by decide) fl63 (fun _ h9 => h9) rfl dX8_rule_60 ?_
    exact hs_iret hx hb hr hlocks hK hP hD hS () [] rfl (by decide) dX8_rule_63 (by first | rfl | decide | (simp [A_rule]; done))
  by_cases sw_6 : what = 2
  · subst sw_6
    refine lv_tableIn (off := 59) (tgt := 64) hx hb dX8_rule_5 (by decide) (by decide) (by rfl) (by decide) ?_
    refine lv_aload_n hx hb dX8_rule_64 rfl (lv_at hl 0 rfl) ?_
    refine va_get (D := D) (ci := 7) (v := .ref mo_st) (C := RX8) (T := TX8) (N := 32) hx hb hts hiX8 hown hK hP 0 rfl rfl 0 (by decide) fl7 (fun _ h9 => h9) rfl dX8_rule_65 ?_
    refine lv_bipush (v := 13) hx hb dX8_rule_68 (by decide) ?_
    refine lv_iload_n hx hb dX8_rule_70 rfl (lv_at hl 1 rfl) ?_
    refine lv_iadd hx hb dX8_rule_71 ?_
    refine hs_topi 15 (by first | rfl | decide +kernel) ?_
    refine lv_iconst (v := 2) hx hb dX8_rule_72 (by decide) ?_
    refine lv_isub hx hb dX8_rule_73 ?_
    refine hs_topi 13 (by first | rfl | decide +kernel) ?_
    refine va_iald hx hb hK hP 1 0 rfl rfl (hs_in (by decide)) dX8_rule_74 ?_
    refine hs_topi 0 (by first | rfl | decide +kernel) ?_
    exact hs_iret hx hb hr hlocks hK hP hD hS () [] rfl (by decide) dX8_rule_75 (by first | rfl | decide | (simp [A_rule]; done))
  by_cases sw_7 : what = 3
  · subst sw_7
    refine lv_tableIn (off := 59) (tgt := 64) hx hb dX8_rule_5 (by decide) (by decide) (by rfl) (by decide) ?_
    refine lv_aload_n hx hb dX8_rule_64 rfl (lv_at hl 0 rfl) ?_
    refine va_get (D := D) (ci := 7) (v := .ref mo_st) (C := RX8) (T := TX8) (N := 32) hx hb hts hiX8 hown hK hP 0 rfl rfl 0 (by decide) fl7 (fun _ h9 => h9) rfl dX8_rule_65 ?_
    refine lv_bipush (v := 13) hx hb dX8_rule_68 (by decide) ?_
    refine lv_iload_n hx hb dX8_rule_70 rfl (lv_at hl 1 rfl) ?_
    refine lv_iadd hx hb dX8_rule_71 ?_
    refine hs_topi 16 (by first | rfl | decide +kernel) ?_
    refine lv_iconst (v := 2) hx hb dX8_rule_72 (by decide) ?_
    refine lv_isub hx hb dX8_rule_73 ?_
    refine hs_topi 14 (by first | rfl | decide +kernel) ?_
    refine va_iald hx hb hK hP 1 0 rfl rfl (hs_in (by decide)) dX8_rule_74 ?_
    refine hs_topi 0 (by first | rfl | decide +kernel) ?_
    exact hs_iret hx hb hr hlocks hK hP hD hS () [] rfl (by decide) dX8_rule_75 (by first | rfl | decide | (simp [A_rule]; done))
  by_cases sw_8 : what = 4
  · subst sw_8
    refine lv_tableIn (off := 59) (tgt := 64) hx hb dX8_rule_5 (by decide) (by decide) (by rfl) (by decide) ?_
    refine lv_aload_n hx hb dX8_rule_64 rfl (lv_at hl 0 rfl) ?_
    refine va_get (D := D) (ci := 7) (v := .ref mo_st) (C := RX8) (T := TX8) (N := 32) hx hb hts hiX8 hown hK hP 0 rfl rfl 0 (by decide) fl7 (fun _ h9 => h9) rfl dX8_rule_65 ?_
    refine lv_bipush (v := 13) hx hb dX8_rule_68 (by decide) ?_
    refine lv_iload_n hx hb dX8_rule_70 rfl (lv_at hl 1 rfl) ?_
    refine lv_iadd hx hb dX8_rule_71 ?_
    refine hs_topi 17 (by first | rfl | decide +kernel) ?_
    refine lv_iconst (v := 2) hx hb dX8_rule_72 (by decide) ?_
    refine lv_isub hx hb dX8_rule_73 ?_
    refine hs_topi 15 (by first | rfl | decide +kernel) ?_
    refine va_iald hx hb hK hP 1 0 rfl rfl (hs_in (by decide)) dX8_rule_74 ?_
    refine hs_topi 0 (by first | rfl | decide +kernel) ?_
    exact hs_iret hx hb hr hlocks hK hP hD hS () [] rfl (by decide) dX8_rule_75 (by first | rfl | decide | (simp [A_rule]; done))
  by_cases sw_9 : what = 5
  · subst sw_9
    refine lv_tableIn (off := 71) (tgt := 76) hx hb dX8_rule_5 (by decide) (by decide) (by rfl) (by decide) ?_
    refine lv_aload_n hx hb dX8_rule_76 rfl (lv_at hl 0 rfl) ?_
    refine va_get (D := D) (ci := 7) (v := .int 2) (C := RX8) (T := TX8) (N := 32) hx hb hts hiX8 hown hK hP 0 rfl rfl 4 (by decide) fl66 (fun _ h9 => h9) rfl dX8_rule_77 ?_
    exact hs_iret hx hb hr hlocks hK hP hD hS () [] rfl (by decide) dX8_rule_80 (by first | rfl | decide | (simp [A_rule]; done))
  by_cases sw_10 : what = 6
  · subst sw_10
    refine lv_tableIn (off := 76) (tgt := 81) hx hb dX8_rule_5 (by decide) (by decide) (by rfl) (by decide) ?_
    refine lv_aload_n hx hb dX8_rule_81 rfl (lv_at hl 0 rfl) ?_
    refine va_get (D := D) (ci := 7) (v := .ref mo_st) (C := RX8) (T := TX8) (N := 32) hx hb hts hiX8 hown hK hP 0 rfl rfl 0 (by decide) fl7 (fun _ h9 => h9) rfl dX8_rule_82 ?_
    refine lv_bipush (v := 16) hx hb dX8_rule_85 (by decide) ?_
    refine va_iald hx hb hK hP 1 0 rfl rfl (hs_in (by decide)) dX8_rule_87 ?_
    refine hs_topi 0 (by first | rfl | decide +kernel) ?_
    exact hs_iret hx hb hr hlocks hK hP hD hS () [] rfl (by decide) dX8_rule_88 (by first | rfl | decide | (simp [A_rule]; done))
  by_cases sw_11 : what = 7
  · subst sw_11
    refine lv_tableIn (off := 84) (tgt := 89) hx hb dX8_rule_5 (by decide) (by decide) (by rfl) (by decide) ?_
    refine lv_aload_n hx hb dX8_rule_89 rfl (lv_at hl 0 rfl) ?_
    refine hs_ci (va_runV (As := []) (rest := []) ⟨hx, hb, hml, hown, hts⟩ (m_allWeights0 l D k _ mo mo_st mo_at mo_isKept 0 2 mo_draft 0 2 0 (-4) mo_tape 0 0 0 0 0 0 0 mo_row 0 0 0 0 mo_before 0 0 0 mo_lanes mo_sizes mo_cells 0 mo_had) (cwV 0 hts gX8_rule_X8_allWeights rfl rfl rfl (by decide +kernel) ⟨Nat.le_of_ble_eq_true rfl, Nat.le_of_ble_eq_true rfl⟩) (hs_preV hK hN (hs_subP (w := [(mo, .inr (7, [.ref mo_st, .ref mo_at, .ref mo_isKept, .int 0, .int 2, .ref mo_draft, .int 0, .int 2, .int 0, .int (-4), .ref mo_tape, .int 0, .int 0, .int 0, .int 0, .int 0, .int 0, .int 0, .ref mo_row, .int 0, .int 0, .int 0, .int 0, .ref mo_before, .long 0, .long 0, .long 0, .ref mo_lanes, .ref mo_sizes, .ref mo_cells, .int 0, .ref mo_had])), (mo_at, .inl (k 0, 44, .inl (hst)))]) hP [0, 2] rfl) (hD.sub (ws' := [(mo, .inr (7, [.ref mo_st, .ref mo_at, .ref mo_isKept, .int 0, .int 2, .ref mo_draft, .int 0, .int 2, .int 0, .int (-4), .ref mo_tape, .int 0, .int 0, .int 0, .int 0, .int 0, .int 0, .int 0, .ref mo_row, .int 0, .int 0, .int 0, .int 0, .ref mo_before, .long 0, .long 0, .long 0, .ref mo_lanes, .ref mo_sizes, .ref mo_cells, .int 0, .ref mo_had])), (mo_at, .inl (k 0, 44, .inl (hst)))]) [0, 2] (by decide) rfl) (ci := 7) (q0 := 0) rfl rfl) rfl rfl hl.1 rfl (lv_room (Nat.le_of_ble_eq_true rfl)) dX8_rule_90 ⟨Nat.le_of_ble_eq_true rfl, Nat.le_of_ble_eq_true rfl⟩) hP hD hS hA [0, 2] [1] [(mo_st, .inl (k 0, 132, .inl (hst)))] rfl rfl (by decide) (by decide) [1, 0, 2] (fun u_14 => [(mo, .inr (7, [.ref mo_st, .ref mo_at, .ref mo_isKept, .int 0, .int 2, .ref mo_draft, .int 0, .int 2, .int 0, .int (-4), .ref mo_tape, .int 0, .int 0, .int 0, .int 0, .int 0, .int 0, .int 0, .ref mo_row, .int 0, .int 0, .int 0, .int 0, .ref mo_before, .long 0, .long 0, .long 0, .ref mo_lanes, .ref mo_sizes, .ref mo_cells, .int 0, .ref mo_had])), (mo_st, .inl (k 0, 132, .inl (hst))), (mo_at, .inl (k 0, 44, .inl (hst)))]) (fun _ => rfl) (by decide) (fun r_12 u_14 H locs hw_13 hP hD hS => ?_)
    have hP : va_P D vwCl [(mo, .inr (7, [.ref mo_st, .ref mo_at, .ref mo_isKept, .int 0, .int 2, .ref mo_draft, .int 0, .int 2, .int 0, .int (-4), .ref mo_tape, .int 0, .int 0, .int 0, .int 0, .int 0, .int 0, .int 0, .ref mo_row, .int 0, .int 0, .int 0, .int 0, .ref mo_before, .long 0, .long 0, .long 0, .ref mo_lanes, .ref mo_sizes, .ref mo_cells, .int 0, .ref mo_had])), (mo_st, .inl (k 0, 132, .inl (hst))), (mo_at, .inl (k 0, 44, .inl (hst)))] H := hP
    have hD : va_D A [(mo, .inr (7, [.ref mo_st, .ref mo_at, .ref mo_isKept, .int 0, .int 2, .ref mo_draft, .int 0, .int 2, .int 0, .int (-4), .ref mo_tape, .int 0, .int 0, .int 0, .int 0, .int 0, .int 0, .int 0, .ref mo_row, .int 0, .int 0, .int 0, .int 0, .ref mo_before, .long 0, .long 0, .long 0, .ref mo_lanes, .ref mo_sizes, .ref mo_cells, .int 0, .ref mo_had])), (mo_st, .inl (k 0, 132, .inl (hst))), (mo_at, .inl (k 0, 44, .inl (hst)))] := hD
    refine hs_topi 2 (hw_13.trans (by first | rfl | decide +kernel | rfl)) ?_
    exact hs_iret hx hb hr hlocks hK hP hD hS () [] rfl (by decide) dX8_rule_93 (by first | rfl | decide | (simp [A_rule]; done))
  refine lv_tableOut (tgt := 94) hx hb dX8_rule_5 (by have z0 := lv_neT sw_4 (a := 0) rfl; have z1 := lv_neT sw_5 (a := 1) rfl; have z2 := lv_neT sw_6 (a := 2) rfl; have z3 := lv_neT sw_7 (a := 3) rfl; have z4 := lv_neT sw_8 (a := 4) rfl; have z5 := lv_neT sw_9 (a := 5) rfl; have z6 := lv_neT sw_10 (a := 6) rfl; have z7 := lv_neT sw_11 (a := 7) rfl; omega) (by decide) ?_
  refine lv_iconst (v := (-1)) hx hb dX8_rule_94 (by decide) ?_
  exact hs_iret hx hb hr hlocks hK hP hD hS () [] rfl (by decide) dX8_rule_95 (by first | rfl | decide | (simp only [hsb_0, hsb_1] at sw_4 sw_5 sw_6 sw_7 sw_8 sw_9 sw_10 sw_11; simp [A_rule, sw_4, sw_5, sw_6, sw_7, sw_8, sw_9, sw_10, sw_11]; done) | (simp [A_rule, sw_4, sw_5, sw_6, sw_7, sw_8, sw_9, sw_10, sw_11]; done))

set_option maxHeartbeats 4000000 in
set_option maxRecDepth 100000 in
theorem q_cell (l : Launch) (D : va_G) (k : Nat → ClassId) (sz : Nat) (mo : Nat) (mo_st : Nat) (mo_at : Nat) (mo_isKept : Nat) (mo_draft : Nat) (mo_tape : Nat) (mo_row : Nat) (mo_before : Nat) (mo_lanes : Nat) (mo_sizes : Nat) (mo_cells : Nat) (mo_had : Nat) (i : Int32)  : MI l yX8_cell wsX8_cell ({ frames := 2, cells := 0, slots := 0, locals := 46 }) D k [.ref mo, .int i] [(mo, .inr (7, [.ref mo_st, .ref mo_at, .ref mo_isKept, .int 0, .int 2, .ref mo_draft, .int 0, .int 2, .int 0, .int (-4), .ref mo_tape, .int 0, .int 0, .int 0, .int 0, .int 0, .int 0, .int 0, .ref mo_row, .int 0, .int 0, .int 0, .int 0, .ref mo_before, .long 0, .long 0, .long 0, .ref mo_lanes, .ref mo_sizes, .ref mo_cells, .int 0, .ref mo_had])), (mo_st, .inl (k 0, 132, .inl (hst)))] sz (fun (r : Int32) (u : Unit) => r = A_cell i) (fun (u : Unit) => []) := by
  refine Met.ofW (cc := cX8_cell) (maxL := 2) (ret := (some .int)) (by decide) rfl ?_
  intro p e s m args below meth c s₁ B hml hv
  obtain ⟨rfl, hsz, hP, hK, hD0, hN⟩ := hv
  have hx := B.exec
  have hb := B.bytes
  have hr := B.returns
  have hlocks := B.notSynchronized
  have hts := atoms_spec (ws := wsX8_cell) B.pre
  have hown : s.vm.findClass RX8 = some m.cls := findClass_of_methodNamed B.named
  have hiX8 : ∀ w ∈ u_ws RX8 TX8 32, w ∈ wsX8_cell := by decide +kernel
  have fl7 := hts (.fieldLink RX8 7 "HalfScalesModel" "st" "[I") (by decide +kernel)
  subst hsz
  have hD := hD0.self (sz := s.heap.size)
  generalize hAe : va_A [(mo, .inr (7, [.ref mo_st, .ref mo_at, .ref mo_isKept, .int 0, .int 2, .ref mo_draft, .int 0, .int 2, .int 0, .int (-4), .ref mo_tape, .int 0, .int 0, .int 0, .int 0, .int 0, .int 0, .int 0, .ref mo_row, .int 0, .int 0, .int 0, .int 0, .ref mo_before, .long 0, .long 0, .long 0, .ref mo_lanes, .ref mo_sizes, .ref mo_cells, .int 0, .ref mo_had])), (mo_st, .inl (k 0, 132, .inl (hst)))] s.heap.size = A at hD ⊢
  have hA : ∀ q : Nat, s.heap.size ≤ q → A q := fun q h => by rw [← hAe]; exact Or.inr h
  have hS : va_S A s.heap s.heap [] := va_S.rf
  have hl := lv_entry ([.ref mo, .int i]) (n := 2) (Nat.le_of_ble_eq_true rfl)
  rw [lg_entry_eq]
  generalize (lg_sl ([.ref mo, .int i]) ++ List.replicate (2 - (lg_sl ([.ref mo, .int i])).length) Slot.unset).toArray = ls at hl ⊢
  have hl : lv_has ls 2 [(0, .ref mo), (1, .int i)] := hl
  have hP : va_P D vwCl [(mo, .inr (7, [.ref mo_st, .ref mo_at, .ref mo_isKept, .int 0, .int 2, .ref mo_draft, .int 0, .int 2, .int 0, .int (-4), .ref mo_tape, .int 0, .int 0, .int 0, .int 0, .int 0, .int 0, .int 0, .ref mo_row, .int 0, .int 0, .int 0, .int 0, .ref mo_before, .long 0, .long 0, .long 0, .ref mo_lanes, .ref mo_sizes, .ref mo_cells, .int 0, .ref mo_had])), (mo_st, .inl (k 0, 132, .inl (hst)))] s.heap := hP
  refine lv_aload_n hx hb dX8_cell_0 rfl (lv_at hl 0 rfl) ?_
  refine lv_iload_n hx hb dX8_cell_1 rfl (lv_at hl 1 rfl) ?_
  refine hs_ci (va_runV (As := [.int i]) (rest := []) ⟨hx, hb, hml, hown, hts⟩ (m_isCell0 l D k _ mo mo_st mo_at mo_isKept mo_draft mo_tape mo_row mo_before mo_lanes mo_sizes mo_cells mo_had i) (cwV 1 hts gX8_cell_X8_isCell rfl rfl rfl (by decide +kernel) ⟨Nat.le_of_ble_eq_true rfl, Nat.le_of_ble_eq_true rfl⟩) (hs_preV hK hN (hs_subP (w := [(mo, .inr (7, [.ref mo_st, .ref mo_at, .ref mo_isKept, .int 0, .int 2, .ref mo_draft, .int 0, .int 2, .int 0, .int (-4), .ref mo_tape, .int 0, .int 0, .int 0, .int 0, .int 0, .int 0, .int 0, .ref mo_row, .int 0, .int 0, .int 0, .int 0, .ref mo_before, .long 0, .long 0, .long 0, .ref mo_lanes, .ref mo_sizes, .ref mo_cells, .int 0, .ref mo_had])), (mo_st, .inl (k 0, 132, .inl (hst)))]) hP [0, 1] rfl) (hD.sub (ws' := [(mo, .inr (7, [.ref mo_st, .ref mo_at, .ref mo_isKept, .int 0, .int 2, .ref mo_draft, .int 0, .int 2, .int 0, .int (-4), .ref mo_tape, .int 0, .int 0, .int 0, .int 0, .int 0, .int 0, .int 0, .ref mo_row, .int 0, .int 0, .int 0, .int 0, .ref mo_before, .long 0, .long 0, .long 0, .ref mo_lanes, .ref mo_sizes, .ref mo_cells, .int 0, .ref mo_had])), (mo_st, .inl (k 0, 132, .inl (hst)))]) [0, 1] (by decide) rfl) (ci := 7) (q0 := 0) rfl rfl) rfl rfl hl.1 rfl (lv_room (Nat.le_of_ble_eq_true rfl)) dX8_cell_2 ⟨Nat.le_of_ble_eq_true rfl, Nat.le_of_ble_eq_true rfl⟩) hP hD hS hA [0, 1] [] [] rfl rfl (by decide) (by decide) [0, 1] (fun u_3 => [(mo, .inr (7, [.ref mo_st, .ref mo_at, .ref mo_isKept, .int 0, .int 2, .ref mo_draft, .int 0, .int 2, .int 0, .int (-4), .ref mo_tape, .int 0, .int 0, .int 0, .int 0, .int 0, .int 0, .int 0, .ref mo_row, .int 0, .int 0, .int 0, .int 0, .ref mo_before, .long 0, .long 0, .long 0, .ref mo_lanes, .ref mo_sizes, .ref mo_cells, .int 0, .ref mo_had])), (mo_st, .inl (k 0, 132, .inl (hst)))]) (fun _ => rfl) (by decide) (fun r_1 u_3 H locs hw_2 hP hD hS => ?_)
  have hP : va_P D vwCl [(mo, .inr (7, [.ref mo_st, .ref mo_at, .ref mo_isKept, .int 0, .int 2, .ref mo_draft, .int 0, .int 2, .int 0, .int (-4), .ref mo_tape, .int 0, .int 0, .int 0, .int 0, .int 0, .int 0, .int 0, .ref mo_row, .int 0, .int 0, .int 0, .int 0, .ref mo_before, .long 0, .long 0, .long 0, .ref mo_lanes, .ref mo_sizes, .ref mo_cells, .int 0, .ref mo_had])), (mo_st, .inl (k 0, 132, .inl (hst)))] H := hP
  have hD : va_D A [(mo, .inr (7, [.ref mo_st, .ref mo_at, .ref mo_isKept, .int 0, .int 2, .ref mo_draft, .int 0, .int 2, .int 0, .int (-4), .ref mo_tape, .int 0, .int 0, .int 0, .int 0, .int 0, .int 0, .int 0, .ref mo_row, .int 0, .int 0, .int 0, .int 0, .ref mo_before, .long 0, .long 0, .long 0, .ref mo_lanes, .ref mo_sizes, .ref mo_cells, .int 0, .ref mo_had])), (mo_st, .inl (k 0, 132, .inl (hst)))] := hD
  refine hs_topi (hsb (hsin i 0 1)) hw_2 ?_
  refine lv_if_eq (tgt := 19) hx hb dX8_cell_5 (by decide) (fun c_4 => ?_) (fun c_4 => ?_)
  · refine lv_iconst (v := (-1)) hx hb dX8_cell_19 (by decide) ?_
    exact hs_iret hx hb hr hlocks hK hP hD hS () [] rfl (by decide) dX8_cell_20 (by first | rfl | decide | (simp only [hsb_0, hsb_1] at c_4; simp [A_cell, c_4]; done) | (simp [A_cell, c_4]; done))
  · rcases hs_v01 (hs_nb c_4) with rfl | rfl
    · refine lv_aload_n hx hb dX8_cell_8 rfl (lv_at hl 0 rfl) ?_
      refine va_get (D := D) (ci := 7) (v := .ref mo_st) (C := RX8) (T := TX8) (N := 32) hx hb hts hiX8 hown hK hP 0 rfl rfl 0 (by decide) fl7 (fun _ h9 => h9) rfl dX8_cell_9 ?_
      refine lv_iconst (v := 1) hx hb dX8_cell_12 (by decide) ?_
      refine lv_iload_n hx hb dX8_cell_13 rfl (lv_at hl 1 rfl) ?_
      refine lv_iadd hx hb dX8_cell_14 ?_
      refine hs_topi 1 (by first | rfl | decide +kernel) ?_
      refine va_iald hx hb hK hP 1 0 rfl rfl (hs_in (by decide)) dX8_cell_15 ?_
      refine hs_topi 1 (by first | rfl | decide +kernel) ?_
      refine lv_goto (tgt := 20) hx hb dX8_cell_16 (by decide) ?_
      exact hs_iret hx hb hr hlocks hK hP hD hS () [] rfl (by decide) dX8_cell_20 (by first | rfl | decide | (simp only [hsb_0, hsb_1] at c_4; simp [A_cell, c_4]; done) | (simp [A_cell, c_4]; done))
    · refine lv_aload_n hx hb dX8_cell_8 rfl (lv_at hl 0 rfl) ?_
      refine va_get (D := D) (ci := 7) (v := .ref mo_st) (C := RX8) (T := TX8) (N := 32) hx hb hts hiX8 hown hK hP 0 rfl rfl 0 (by decide) fl7 (fun _ h9 => h9) rfl dX8_cell_9 ?_
      refine lv_iconst (v := 1) hx hb dX8_cell_12 (by decide) ?_
      refine lv_iload_n hx hb dX8_cell_13 rfl (lv_at hl 1 rfl) ?_
      refine lv_iadd hx hb dX8_cell_14 ?_
      refine hs_topi 2 (by first | rfl | decide +kernel) ?_
      refine va_iald hx hb hK hP 1 0 rfl rfl (hs_in (by decide)) dX8_cell_15 ?_
      refine hs_topi 1 (by first | rfl | decide +kernel) ?_
      refine lv_goto (tgt := 20) hx hb dX8_cell_16 (by decide) ?_
      exact hs_iret hx hb hr hlocks hK hP hD hS () [] rfl (by decide) dX8_cell_20 (by first | rfl | decide | (simp only [hsb_0, hsb_1] at c_4; simp [A_cell, c_4]; done) | (simp [A_cell, c_4]; done))

set_option maxHeartbeats 4000000 in
set_option maxRecDepth 100000 in
theorem q_person (l : Launch) (D : va_G) (k : Nat → ClassId) (sz : Nat) (mo : Nat) (mo_st : Nat) (mo_at : Nat) (mo_isKept : Nat) (mo_draft : Nat) (mo_tape : Nat) (mo_row : Nat) (mo_before : Nat) (mo_lanes : Nat) (mo_sizes : Nat) (mo_cells : Nat) (mo_had : Nat) (i : Int32)  : MI l yX8_person wsX8_person ({ frames := 2, cells := 0, slots := 0, locals := 46 }) D k [.ref mo, .int i] [(mo, .inr (7, [.ref mo_st, .ref mo_at, .ref mo_isKept, .int 0, .int 2, .ref mo_draft, .int 0, .int 2, .int 0, .int (-4), .ref mo_tape, .int 0, .int 0, .int 0, .int 0, .int 0, .int 0, .int 0, .ref mo_row, .int 0, .int 0, .int 0, .int 0, .ref mo_before, .long 0, .long 0, .long 0, .ref mo_lanes, .ref mo_sizes, .ref mo_cells, .int 0, .ref mo_had])), (mo_st, .inl (k 0, 132, .inl (hst)))] sz (fun (r : Int32) (u : Unit) => r = A_person i) (fun (u : Unit) => []) := by
  refine Met.ofW (cc := cX8_person) (maxL := 2) (ret := (some .int)) (by decide) rfl ?_
  intro p e s m args below meth c s₁ B hml hv
  obtain ⟨rfl, hsz, hP, hK, hD0, hN⟩ := hv
  have hx := B.exec
  have hb := B.bytes
  have hr := B.returns
  have hlocks := B.notSynchronized
  have hts := atoms_spec (ws := wsX8_person) B.pre
  have hown : s.vm.findClass RX8 = some m.cls := findClass_of_methodNamed B.named
  subst hsz
  have hD := hD0.self (sz := s.heap.size)
  generalize hAe : va_A [(mo, .inr (7, [.ref mo_st, .ref mo_at, .ref mo_isKept, .int 0, .int 2, .ref mo_draft, .int 0, .int 2, .int 0, .int (-4), .ref mo_tape, .int 0, .int 0, .int 0, .int 0, .int 0, .int 0, .int 0, .ref mo_row, .int 0, .int 0, .int 0, .int 0, .ref mo_before, .long 0, .long 0, .long 0, .ref mo_lanes, .ref mo_sizes, .ref mo_cells, .int 0, .ref mo_had])), (mo_st, .inl (k 0, 132, .inl (hst)))] s.heap.size = A at hD ⊢
  have hA : ∀ q : Nat, s.heap.size ≤ q → A q := fun q h => by rw [← hAe]; exact Or.inr h
  have hS : va_S A s.heap s.heap [] := va_S.rf
  have hl := lv_entry ([.ref mo, .int i]) (n := 2) (Nat.le_of_ble_eq_true rfl)
  rw [lg_entry_eq]
  generalize (lg_sl ([.ref mo, .int i]) ++ List.replicate (2 - (lg_sl ([.ref mo, .int i])).length) Slot.unset).toArray = ls at hl ⊢
  have hl : lv_has ls 2 [(0, .ref mo), (1, .int i)] := hl
  have hP : va_P D vwCl [(mo, .inr (7, [.ref mo_st, .ref mo_at, .ref mo_isKept, .int 0, .int 2, .ref mo_draft, .int 0, .int 2, .int 0, .int (-4), .ref mo_tape, .int 0, .int 0, .int 0, .int 0, .int 0, .int 0, .int 0, .ref mo_row, .int 0, .int 0, .int 0, .int 0, .ref mo_before, .long 0, .long 0, .long 0, .ref mo_lanes, .ref mo_sizes, .ref mo_cells, .int 0, .ref mo_had])), (mo_st, .inl (k 0, 132, .inl (hst)))] s.heap := hP
  refine lv_aload_n hx hb dX8_person_0 rfl (lv_at hl 0 rfl) ?_
  refine lv_iload_n hx hb dX8_person_1 rfl (lv_at hl 1 rfl) ?_
  refine hs_ci (va_runV (As := [.int i]) (rest := []) ⟨hx, hb, hml, hown, hts⟩ (m_isPerson0 l D k _ mo mo_st mo_at mo_isKept mo_draft mo_tape mo_row mo_before mo_lanes mo_sizes mo_cells mo_had i) (cwV 1 hts gX8_person_X8_isPerson rfl rfl rfl (by decide +kernel) ⟨Nat.le_of_ble_eq_true rfl, Nat.le_of_ble_eq_true rfl⟩) (hs_preV hK hN (hs_subP (w := [(mo, .inr (7, [.ref mo_st, .ref mo_at, .ref mo_isKept, .int 0, .int 2, .ref mo_draft, .int 0, .int 2, .int 0, .int (-4), .ref mo_tape, .int 0, .int 0, .int 0, .int 0, .int 0, .int 0, .int 0, .ref mo_row, .int 0, .int 0, .int 0, .int 0, .ref mo_before, .long 0, .long 0, .long 0, .ref mo_lanes, .ref mo_sizes, .ref mo_cells, .int 0, .ref mo_had])), (mo_st, .inl (k 0, 132, .inl (hst)))]) hP [0, 1] rfl) (hD.sub (ws' := [(mo, .inr (7, [.ref mo_st, .ref mo_at, .ref mo_isKept, .int 0, .int 2, .ref mo_draft, .int 0, .int 2, .int 0, .int (-4), .ref mo_tape, .int 0, .int 0, .int 0, .int 0, .int 0, .int 0, .int 0, .ref mo_row, .int 0, .int 0, .int 0, .int 0, .ref mo_before, .long 0, .long 0, .long 0, .ref mo_lanes, .ref mo_sizes, .ref mo_cells, .int 0, .ref mo_had])), (mo_st, .inl (k 0, 132, .inl (hst)))]) [0, 1] (by decide) rfl) (ci := 7) (q0 := 0) rfl rfl) rfl rfl hl.1 rfl (lv_room (Nat.le_of_ble_eq_true rfl)) dX8_person_2 ⟨Nat.le_of_ble_eq_true rfl, Nat.le_of_ble_eq_true rfl⟩) hP hD hS hA [0, 1] [] [] rfl rfl (by decide) (by decide) [0, 1] (fun u_3 => [(mo, .inr (7, [.ref mo_st, .ref mo_at, .ref mo_isKept, .int 0, .int 2, .ref mo_draft, .int 0, .int 2, .int 0, .int (-4), .ref mo_tape, .int 0, .int 0, .int 0, .int 0, .int 0, .int 0, .int 0, .ref mo_row, .int 0, .int 0, .int 0, .int 0, .ref mo_before, .long 0, .long 0, .long 0, .ref mo_lanes, .ref mo_sizes, .ref mo_cells, .int 0, .ref mo_had])), (mo_st, .inl (k 0, 132, .inl (hst)))]) (fun _ => rfl) (by decide) (fun r_1 u_3 H locs hw_2 hP hD hS => ?_)
  have hP : va_P D vwCl [(mo, .inr (7, [.ref mo_st, .ref mo_at, .ref mo_isKept, .int 0, .int 2, .ref mo_draft, .int 0, .int 2, .int 0, .int (-4), .ref mo_tape, .int 0, .int 0, .int 0, .int 0, .int 0, .int 0, .int 0, .ref mo_row, .int 0, .int 0, .int 0, .int 0, .ref mo_before, .long 0, .long 0, .long 0, .ref mo_lanes, .ref mo_sizes, .ref mo_cells, .int 0, .ref mo_had])), (mo_st, .inl (k 0, 132, .inl (hst)))] H := hP
  have hD : va_D A [(mo, .inr (7, [.ref mo_st, .ref mo_at, .ref mo_isKept, .int 0, .int 2, .ref mo_draft, .int 0, .int 2, .int 0, .int (-4), .ref mo_tape, .int 0, .int 0, .int 0, .int 0, .int 0, .int 0, .int 0, .ref mo_row, .int 0, .int 0, .int 0, .int 0, .ref mo_before, .long 0, .long 0, .long 0, .ref mo_lanes, .ref mo_sizes, .ref mo_cells, .int 0, .ref mo_had])), (mo_st, .inl (k 0, 132, .inl (hst)))] := hD
  refine hs_topi 0 (hw_2.trans (by first | rfl | decide +kernel | rfl)) ?_
  refine lv_if_eq (tgt := 20) hx hb dX8_person_5 (by decide) (fun c_4 => ?_) (fun c_4 => absurd c_4 (by decide))
  refine lv_iconst (v := (-1)) hx hb dX8_person_20 (by decide) ?_
  exact hs_iret hx hb hr hlocks hK hP hD hS () [] rfl (by decide) dX8_person_21 (by first | rfl | decide | (simp only [hsb_0, hsb_1] at c_4; simp [A_person, c_4]; done) | (simp [A_person, c_4]; done))

set_option maxHeartbeats 4000000 in
set_option maxRecDepth 100000 in
theorem q_pair (l : Launch) (D : va_G) (k : Nat → ClassId) (sz : Nat) (mo : Nat) (mo_st : Nat) (mo_at : Nat) (mo_isKept : Nat) (mo_draft : Nat) (mo_tape : Nat) (mo_row : Nat) (mo_before : Nat) (mo_lanes : Nat) (mo_sizes : Nat) (mo_cells : Nat) (mo_had : Nat) (i : Int32)  : MI l yX8_pair wsX8_pair ({ frames := 1, cells := 0, slots := 0, locals := 25 }) D k [.ref mo, .int i] [(mo, .inr (7, [.ref mo_st, .ref mo_at, .ref mo_isKept, .int 0, .int 2, .ref mo_draft, .int 0, .int 2, .int 0, .int (-4), .ref mo_tape, .int 0, .int 0, .int 0, .int 0, .int 0, .int 0, .int 0, .ref mo_row, .int 0, .int 0, .int 0, .int 0, .ref mo_before, .long 0, .long 0, .long 0, .ref mo_lanes, .ref mo_sizes, .ref mo_cells, .int 0, .ref mo_had])), (mo_st, .inl (k 0, 132, .inl (hst)))] sz (fun (r : Int32) (u : Unit) => r = A_pair i) (fun (u : Unit) => []) := by
  refine Met.ofW (cc := cX8_pair) (maxL := 2) (ret := (some .int)) (by decide) rfl ?_
  intro p e s m args below meth c s₁ B hml hv
  obtain ⟨rfl, hsz, hP, hK, hD0, hN⟩ := hv
  have hx := B.exec
  have hb := B.bytes
  have hr := B.returns
  have hlocks := B.notSynchronized
  have hts := atoms_spec (ws := wsX8_pair) B.pre
  have hown : s.vm.findClass RX8 = some m.cls := findClass_of_methodNamed B.named
  have hiX8 : ∀ w ∈ u_ws RX8 TX8 32, w ∈ wsX8_pair := by decide +kernel
  have fl7 := hts (.fieldLink RX8 7 "HalfScalesModel" "st" "[I") (by decide +kernel)
  subst hsz
  have hD := hD0.self (sz := s.heap.size)
  generalize hAe : va_A [(mo, .inr (7, [.ref mo_st, .ref mo_at, .ref mo_isKept, .int 0, .int 2, .ref mo_draft, .int 0, .int 2, .int 0, .int (-4), .ref mo_tape, .int 0, .int 0, .int 0, .int 0, .int 0, .int 0, .int 0, .ref mo_row, .int 0, .int 0, .int 0, .int 0, .ref mo_before, .long 0, .long 0, .long 0, .ref mo_lanes, .ref mo_sizes, .ref mo_cells, .int 0, .ref mo_had])), (mo_st, .inl (k 0, 132, .inl (hst)))] s.heap.size = A at hD ⊢
  have hA : ∀ q : Nat, s.heap.size ≤ q → A q := fun q h => by rw [← hAe]; exact Or.inr h
  have hS : va_S A s.heap s.heap [] := va_S.rf
  have hl := lv_entry ([.ref mo, .int i]) (n := 2) (Nat.le_of_ble_eq_true rfl)
  rw [lg_entry_eq]
  generalize (lg_sl ([.ref mo, .int i]) ++ List.replicate (2 - (lg_sl ([.ref mo, .int i])).length) Slot.unset).toArray = ls at hl ⊢
  have hl : lv_has ls 2 [(0, .ref mo), (1, .int i)] := hl
  have hP : va_P D vwCl [(mo, .inr (7, [.ref mo_st, .ref mo_at, .ref mo_isKept, .int 0, .int 2, .ref mo_draft, .int 0, .int 2, .int 0, .int (-4), .ref mo_tape, .int 0, .int 0, .int 0, .int 0, .int 0, .int 0, .int 0, .ref mo_row, .int 0, .int 0, .int 0, .int 0, .ref mo_before, .long 0, .long 0, .long 0, .ref mo_lanes, .ref mo_sizes, .ref mo_cells, .int 0, .ref mo_had])), (mo_st, .inl (k 0, 132, .inl (hst)))] s.heap := hP
  refine lv_iload_n hx hb dX8_pair_0 rfl (lv_at hl 1 rfl) ?_
  refine lv_i2l hx hb dX8_pair_1 rfl ?_
  refine lv_lconst (v := 0) hx hb dX8_pair_2 (by decide) ?_
  refine lv_aload_n hx hb dX8_pair_3 rfl (lv_at hl 0 rfl) ?_
  refine va_get (D := D) (ci := 7) (v := .ref mo_st) (C := RX8) (T := TX8) (N := 32) hx hb hts hiX8 hown hK hP 0 rfl rfl 0 (by decide) fl7 (fun _ h9 => h9) rfl dX8_pair_4 ?_
  refine lv_bipush (v := 16) hx hb dX8_pair_7 (by decide) ?_
  refine va_iald hx hb hK hP 1 0 rfl rfl (hs_in (by decide)) dX8_pair_9 ?_
  refine hs_topi 0 (by first | rfl | decide +kernel) ?_
  refine lv_iconst (v := 1) hx hb dX8_pair_10 (by decide) ?_
  refine lv_isub hx hb dX8_pair_11 ?_
  refine hs_topi (-1) (by first | rfl | decide +kernel) ?_
  refine lv_i2l (v := (-1)) hx hb dX8_pair_12 (by decide +kernel) ?_
  refine hs_pi (va_runS (As := [.long (((i) : Int32).toInt64), .long 0, .long (-1)]) (rest := []) ⟨hx, hb, hml, hown, hts⟩ (m_in l D k _ i 0 (-1)) (va_cwS 3 hts gX8_pair_X8_in rfl rfl rfl (by decide +kernel) ⟨Nat.le_of_ble_eq_true rfl, Nat.le_of_ble_eq_true rfl⟩) (hs_preS hK hN (hs_subP (w := []) hP [] rfl) (hD.sub (ws' := []) [] (by decide) rfl)) rfl rfl hl.1 rfl (lv_room (Nat.le_of_ble_eq_true rfl)) dX8_pair_13 ⟨Nat.le_of_ble_eq_true rfl, Nat.le_of_ble_eq_true rfl⟩) hP hD hS hA (fun r_1 u_3 H locs hw_2 hP hS => ?_)
  refine hs_topi 0 (hw_2.trans (by first | rfl | decide +kernel | (rw [hsin_no]; rfl))) ?_
  refine lv_if_eq (tgt := 31) hx hb dX8_pair_16 (by decide) (fun c_4 => ?_) (fun c_4 => absurd c_4 (by decide))
  refine lv_iconst (v := (-1)) hx hb dX8_pair_31 (by decide) ?_
  exact hs_iret hx hb hr hlocks hK hP hD hS () [] rfl (by decide) dX8_pair_32 (by first | rfl | decide | (simp only [hsb_0, hsb_1] at c_4; simp [A_pair, c_4]; done) | (simp [A_pair, c_4]; done))

set_option maxHeartbeats 4000000 in
set_option maxRecDepth 100000 in
theorem q_weigh (l : Launch) (D : va_G) (k : Nat → ClassId) (sz : Nat) (mo : Nat) (mo_st : Nat) (mo_at : Nat) (mo_isKept : Nat) (mo_draft : Nat) (mo_tape : Nat) (mo_row : Nat) (mo_before : Nat) (mo_lanes : Nat) (mo_sizes : Nat) (mo_cells : Nat) (mo_had : Nat) (i : Int32) (v : Int32)  : MI l yX8_weigh wsX8_weigh ({ frames := 2, cells := 0, slots := 0, locals := 46 }) D k [.ref mo, .int i, .int v] [(mo, .inr (7, [.ref mo_st, .ref mo_at, .ref mo_isKept, .int 0, .int 2, .ref mo_draft, .int 0, .int 2, .int 0, .int (-4), .ref mo_tape, .int 0, .int 0, .int 0, .int 0, .int 0, .int 0, .int 0, .ref mo_row, .int 0, .int 0, .int 0, .int 0, .ref mo_before, .long 0, .long 0, .long 0, .ref mo_lanes, .ref mo_sizes, .ref mo_cells, .int 0, .ref mo_had])), (mo_st, .inl (k 0, 132, .inl (hst)))] sz (fun (r : Int32) (u : Unit) => r = A_weigh i v) (fun (u : Unit) => []) := by
  refine Met.ofW (cc := cX8_weigh) (maxL := 3) (ret := (some .int)) (by decide) rfl ?_
  intro p e s m args below meth c s₁ B hml hv
  obtain ⟨rfl, hsz, hP, hK, hD0, hN⟩ := hv
  have hx := B.exec
  have hb := B.bytes
  have hr := B.returns
  have hlocks := B.notSynchronized
  have hts := atoms_spec (ws := wsX8_weigh) B.pre
  have hown : s.vm.findClass RX8 = some m.cls := findClass_of_methodNamed B.named
  have kl190 := hts (.constantLong RX8 190 (9)) (by decide +kernel)
  subst hsz
  have hD := hD0.self (sz := s.heap.size)
  generalize hAe : va_A [(mo, .inr (7, [.ref mo_st, .ref mo_at, .ref mo_isKept, .int 0, .int 2, .ref mo_draft, .int 0, .int 2, .int 0, .int (-4), .ref mo_tape, .int 0, .int 0, .int 0, .int 0, .int 0, .int 0, .int 0, .ref mo_row, .int 0, .int 0, .int 0, .int 0, .ref mo_before, .long 0, .long 0, .long 0, .ref mo_lanes, .ref mo_sizes, .ref mo_cells, .int 0, .ref mo_had])), (mo_st, .inl (k 0, 132, .inl (hst)))] s.heap.size = A at hD ⊢
  have hA : ∀ q : Nat, s.heap.size ≤ q → A q := fun q h => by rw [← hAe]; exact Or.inr h
  have hS : va_S A s.heap s.heap [] := va_S.rf
  have hl := lv_entry ([.ref mo, .int i, .int v]) (n := 3) (Nat.le_of_ble_eq_true rfl)
  rw [lg_entry_eq]
  generalize (lg_sl ([.ref mo, .int i, .int v]) ++ List.replicate (3 - (lg_sl ([.ref mo, .int i, .int v])).length) Slot.unset).toArray = ls at hl ⊢
  have hl : lv_has ls 3 [(0, .ref mo), (1, .int i), (2, .int v)] := hl
  have hP : va_P D vwCl [(mo, .inr (7, [.ref mo_st, .ref mo_at, .ref mo_isKept, .int 0, .int 2, .ref mo_draft, .int 0, .int 2, .int 0, .int (-4), .ref mo_tape, .int 0, .int 0, .int 0, .int 0, .int 0, .int 0, .int 0, .ref mo_row, .int 0, .int 0, .int 0, .int 0, .ref mo_before, .long 0, .long 0, .long 0, .ref mo_lanes, .ref mo_sizes, .ref mo_cells, .int 0, .ref mo_had])), (mo_st, .inl (k 0, 132, .inl (hst)))] s.heap := hP
  refine lv_aload_n hx hb dX8_weigh_0 rfl (lv_at hl 0 rfl) ?_
  refine lv_iload_n hx hb dX8_weigh_1 rfl (lv_at hl 1 rfl) ?_
  refine hs_ci (va_runV (As := [.int i]) (rest := []) ⟨hx, hb, hml, hown, hts⟩ (m_isCell0 l D k _ mo mo_st mo_at mo_isKept mo_draft mo_tape mo_row mo_before mo_lanes mo_sizes mo_cells mo_had i) (cwV 1 hts gX8_weigh_X8_isCell rfl rfl rfl (by decide +kernel) ⟨Nat.le_of_ble_eq_true rfl, Nat.le_of_ble_eq_true rfl⟩) (hs_preV hK hN (hs_subP (w := [(mo, .inr (7, [.ref mo_st, .ref mo_at, .ref mo_isKept, .int 0, .int 2, .ref mo_draft, .int 0, .int 2, .int 0, .int (-4), .ref mo_tape, .int 0, .int 0, .int 0, .int 0, .int 0, .int 0, .int 0, .ref mo_row, .int 0, .int 0, .int 0, .int 0, .ref mo_before, .long 0, .long 0, .long 0, .ref mo_lanes, .ref mo_sizes, .ref mo_cells, .int 0, .ref mo_had])), (mo_st, .inl (k 0, 132, .inl (hst)))]) hP [0, 1] rfl) (hD.sub (ws' := [(mo, .inr (7, [.ref mo_st, .ref mo_at, .ref mo_isKept, .int 0, .int 2, .ref mo_draft, .int 0, .int 2, .int 0, .int (-4), .ref mo_tape, .int 0, .int 0, .int 0, .int 0, .int 0, .int 0, .int 0, .ref mo_row, .int 0, .int 0, .int 0, .int 0, .ref mo_before, .long 0, .long 0, .long 0, .ref mo_lanes, .ref mo_sizes, .ref mo_cells, .int 0, .ref mo_had])), (mo_st, .inl (k 0, 132, .inl (hst)))]) [0, 1] (by decide) rfl) (ci := 7) (q0 := 0) rfl rfl) rfl rfl hl.1 rfl (lv_room (Nat.le_of_ble_eq_true rfl)) dX8_weigh_2 ⟨Nat.le_of_ble_eq_true rfl, Nat.le_of_ble_eq_true rfl⟩) hP hD hS hA [0, 1] [] [] rfl rfl (by decide) (by decide) [0, 1] (fun u_3 => [(mo, .inr (7, [.ref mo_st, .ref mo_at, .ref mo_isKept, .int 0, .int 2, .ref mo_draft, .int 0, .int 2, .int 0, .int (-4), .ref mo_tape, .int 0, .int 0, .int 0, .int 0, .int 0, .int 0, .int 0, .ref mo_row, .int 0, .int 0, .int 0, .int 0, .ref mo_before, .long 0, .long 0, .long 0, .ref mo_lanes, .ref mo_sizes, .ref mo_cells, .int 0, .ref mo_had])), (mo_st, .inl (k 0, 132, .inl (hst)))]) (fun _ => rfl) (by decide) (fun r_1 u_3 H locs hw_2 hP hD hS => ?_)
  have hP : va_P D vwCl [(mo, .inr (7, [.ref mo_st, .ref mo_at, .ref mo_isKept, .int 0, .int 2, .ref mo_draft, .int 0, .int 2, .int 0, .int (-4), .ref mo_tape, .int 0, .int 0, .int 0, .int 0, .int 0, .int 0, .int 0, .ref mo_row, .int 0, .int 0, .int 0, .int 0, .ref mo_before, .long 0, .long 0, .long 0, .ref mo_lanes, .ref mo_sizes, .ref mo_cells, .int 0, .ref mo_had])), (mo_st, .inl (k 0, 132, .inl (hst)))] H := hP
  have hD : va_D A [(mo, .inr (7, [.ref mo_st, .ref mo_at, .ref mo_isKept, .int 0, .int 2, .ref mo_draft, .int 0, .int 2, .int 0, .int (-4), .ref mo_tape, .int 0, .int 0, .int 0, .int 0, .int 0, .int 0, .int 0, .ref mo_row, .int 0, .int 0, .int 0, .int 0, .ref mo_before, .long 0, .long 0, .long 0, .ref mo_lanes, .ref mo_sizes, .ref mo_cells, .int 0, .ref mo_had])), (mo_st, .inl (k 0, 132, .inl (hst)))] := hD
  refine hs_topi (hsb (hsin i 0 1)) hw_2 ?_
  refine lv_if_eq (tgt := 31) hx hb dX8_weigh_5 (by decide) (fun c_4 => ?_) (fun c_4 => ?_)
  · refine lv_iconst (v := (-1)) hx hb dX8_weigh_31 (by decide) ?_
    exact hs_iret hx hb hr hlocks hK hP hD hS () [] rfl (by decide) dX8_weigh_32 (by first | rfl | decide | (simp only [hsb_0, hsb_1] at c_4; simp [A_weigh, c_4]; done) | (simp [A_weigh, c_4]; done))
  · rcases hs_v01 (hs_nb c_4) with rfl | rfl
    · refine lv_iload_n hx hb dX8_weigh_8 rfl (lv_at hl 2 rfl) ?_
      refine lv_i2l hx hb dX8_weigh_9 rfl ?_
      refine lv_lconst (v := 0) hx hb dX8_weigh_10 (by decide) ?_
      refine lv_ldc2 hx hb hown kl190 dX8_weigh_11 ?_
      refine hs_pi (va_runS (As := [.long (((v) : Int32).toInt64), .long 0, .long 9]) (rest := []) ⟨hx, hb, hml, hown, hts⟩ (m_in l D k _ v 0 9) (va_cwS 3 hts gX8_weigh_X8_in rfl rfl rfl (by decide +kernel) ⟨Nat.le_of_ble_eq_true rfl, Nat.le_of_ble_eq_true rfl⟩) (hs_preS hK hN (hs_subP (w := []) hP [] rfl) (hD.sub (ws' := []) [] (by decide) rfl)) rfl rfl hl.1 rfl (lv_room (Nat.le_of_ble_eq_true rfl)) dX8_weigh_14 ⟨Nat.le_of_ble_eq_true rfl, Nat.le_of_ble_eq_true rfl⟩) hP hD hS hA (fun r_5 u_7 H locs hw_6 hP hS => ?_)
      refine hs_topi (hsb (hsin v 0 9)) hw_6 ?_
      refine lv_if_eq (tgt := 31) hx hb dX8_weigh_17 (by decide) (fun c_8 => ?_) (fun c_8 => ?_)
      · refine lv_iconst (v := (-1)) hx hb dX8_weigh_31 (by decide) ?_
        exact hs_iret hx hb hr hlocks hK hP hD hS () [] rfl (by decide) dX8_weigh_32 (by first | rfl | decide | (simp only [hsb_0, hsb_1] at c_4 c_8; simp [A_weigh, c_4, c_8]; done) | (simp [A_weigh, c_4, c_8]; done))
      · refine lv_aload_n hx hb dX8_weigh_20 rfl (lv_at hl 0 rfl) ?_
        refine lv_iconst (v := 1) hx hb dX8_weigh_21 (by decide) ?_
        refine lv_iload_n hx hb dX8_weigh_22 rfl (lv_at hl 1 rfl) ?_
        refine lv_iadd hx hb dX8_weigh_23 ?_
        refine hs_topi 1 (by first | rfl | decide +kernel) ?_
        refine lv_iload_n hx hb dX8_weigh_24 rfl (lv_at hl 2 rfl) ?_
        refine hs_ci (va_runV (As := [.int 1, .int v]) (rest := []) ⟨hx, hb, hml, hown, hts⟩ (m_becomes_st l D k _ mo mo_st mo_at mo_isKept mo_draft mo_tape mo_row mo_before mo_lanes mo_sizes mo_cells mo_had 1 v (hs_in (by decide))) (cwV 2 hts gX8_weigh_X8_becomes rfl rfl rfl (by decide +kernel) ⟨Nat.le_of_ble_eq_true rfl, Nat.le_of_ble_eq_true rfl⟩) (hs_preV hK hN (hs_subP (w := [(mo, .inr (7, [.ref mo_st, .ref mo_at, .ref mo_isKept, .int 0, .int 2, .ref mo_draft, .int 0, .int 2, .int 0, .int (-4), .ref mo_tape, .int 0, .int 0, .int 0, .int 0, .int 0, .int 0, .int 0, .ref mo_row, .int 0, .int 0, .int 0, .int 0, .ref mo_before, .long 0, .long 0, .long 0, .ref mo_lanes, .ref mo_sizes, .ref mo_cells, .int 0, .ref mo_had])), (mo_st, .inl (k 0, 132, .inl (hst)))]) hP [0, 1] rfl) (hD.sub (ws' := [(mo, .inr (7, [.ref mo_st, .ref mo_at, .ref mo_isKept, .int 0, .int 2, .ref mo_draft, .int 0, .int 2, .int 0, .int (-4), .ref mo_tape, .int 0, .int 0, .int 0, .int 0, .int 0, .int 0, .int 0, .ref mo_row, .int 0, .int 0, .int 0, .int 0, .ref mo_before, .long 0, .long 0, .long 0, .ref mo_lanes, .ref mo_sizes, .ref mo_cells, .int 0, .ref mo_had])), (mo_st, .inl (k 0, 132, .inl (hst)))]) [0, 1] (by decide) rfl) (ci := 7) (q0 := 0) rfl rfl) rfl rfl hl.1 rfl (lv_room (Nat.le_of_ble_eq_true rfl)) dX8_weigh_25 ⟨Nat.le_of_ble_eq_true rfl, Nat.le_of_ble_eq_true rfl⟩) hP hD hS hA [0, 1] [] [] rfl rfl (by decide) (by decide) [] (fun u_11 => []) (fun _ => rfl) (by decide) (fun r_9 u_11 H locs hw_10 hP hD hS => ?_)
        have hP : va_P D vwCl [] H := hP
        have hD : va_D A [] := hD
        refine hs_topi 1 (hw_10.trans (by first | rfl | decide +kernel | rfl)) ?_
        refine lv_goto (tgt := 32) hx hb dX8_weigh_28 (by decide) ?_
        exact hs_iret hx hb hr hlocks hK hP hD hS () [] rfl (by decide) dX8_weigh_32 (by first | rfl | decide | (simp only [hsb_0, hsb_1] at c_4 c_8; simp [A_weigh, c_4, c_8]; done) | (simp [A_weigh, c_4, c_8]; done))
    · refine lv_iload_n hx hb dX8_weigh_8 rfl (lv_at hl 2 rfl) ?_
      refine lv_i2l hx hb dX8_weigh_9 rfl ?_
      refine lv_lconst (v := 0) hx hb dX8_weigh_10 (by decide) ?_
      refine lv_ldc2 hx hb hown kl190 dX8_weigh_11 ?_
      refine hs_pi (va_runS (As := [.long (((v) : Int32).toInt64), .long 0, .long 9]) (rest := []) ⟨hx, hb, hml, hown, hts⟩ (m_in l D k _ v 0 9) (va_cwS 3 hts gX8_weigh_X8_in rfl rfl rfl (by decide +kernel) ⟨Nat.le_of_ble_eq_true rfl, Nat.le_of_ble_eq_true rfl⟩) (hs_preS hK hN (hs_subP (w := []) hP [] rfl) (hD.sub (ws' := []) [] (by decide) rfl)) rfl rfl hl.1 rfl (lv_room (Nat.le_of_ble_eq_true rfl)) dX8_weigh_14 ⟨Nat.le_of_ble_eq_true rfl, Nat.le_of_ble_eq_true rfl⟩) hP hD hS hA (fun r_12 u_14 H locs hw_13 hP hS => ?_)
      refine hs_topi (hsb (hsin v 0 9)) hw_13 ?_
      refine lv_if_eq (tgt := 31) hx hb dX8_weigh_17 (by decide) (fun c_15 => ?_) (fun c_15 => ?_)
      · refine lv_iconst (v := (-1)) hx hb dX8_weigh_31 (by decide) ?_
        exact hs_iret hx hb hr hlocks hK hP hD hS () [] rfl (by decide) dX8_weigh_32 (by first | rfl | decide | (simp only [hsb_0, hsb_1] at c_4 c_15; simp [A_weigh, c_4, c_15]; done) | (simp [A_weigh, c_4, c_15]; done))
      · refine lv_aload_n hx hb dX8_weigh_20 rfl (lv_at hl 0 rfl) ?_
        refine lv_iconst (v := 1) hx hb dX8_weigh_21 (by decide) ?_
        refine lv_iload_n hx hb dX8_weigh_22 rfl (lv_at hl 1 rfl) ?_
        refine lv_iadd hx hb dX8_weigh_23 ?_
        refine hs_topi 2 (by first | rfl | decide +kernel) ?_
        refine lv_iload_n hx hb dX8_weigh_24 rfl (lv_at hl 2 rfl) ?_
        refine hs_ci (va_runV (As := [.int 2, .int v]) (rest := []) ⟨hx, hb, hml, hown, hts⟩ (m_becomes_st l D k _ mo mo_st mo_at mo_isKept mo_draft mo_tape mo_row mo_before mo_lanes mo_sizes mo_cells mo_had 2 v (hs_in (by decide))) (cwV 2 hts gX8_weigh_X8_becomes rfl rfl rfl (by decide +kernel) ⟨Nat.le_of_ble_eq_true rfl, Nat.le_of_ble_eq_true rfl⟩) (hs_preV hK hN (hs_subP (w := [(mo, .inr (7, [.ref mo_st, .ref mo_at, .ref mo_isKept, .int 0, .int 2, .ref mo_draft, .int 0, .int 2, .int 0, .int (-4), .ref mo_tape, .int 0, .int 0, .int 0, .int 0, .int 0, .int 0, .int 0, .ref mo_row, .int 0, .int 0, .int 0, .int 0, .ref mo_before, .long 0, .long 0, .long 0, .ref mo_lanes, .ref mo_sizes, .ref mo_cells, .int 0, .ref mo_had])), (mo_st, .inl (k 0, 132, .inl (hst)))]) hP [0, 1] rfl) (hD.sub (ws' := [(mo, .inr (7, [.ref mo_st, .ref mo_at, .ref mo_isKept, .int 0, .int 2, .ref mo_draft, .int 0, .int 2, .int 0, .int (-4), .ref mo_tape, .int 0, .int 0, .int 0, .int 0, .int 0, .int 0, .int 0, .ref mo_row, .int 0, .int 0, .int 0, .int 0, .ref mo_before, .long 0, .long 0, .long 0, .ref mo_lanes, .ref mo_sizes, .ref mo_cells, .int 0, .ref mo_had])), (mo_st, .inl (k 0, 132, .inl (hst)))]) [0, 1] (by decide) rfl) (ci := 7) (q0 := 0) rfl rfl) rfl rfl hl.1 rfl (lv_room (Nat.le_of_ble_eq_true rfl)) dX8_weigh_25 ⟨Nat.le_of_ble_eq_true rfl, Nat.le_of_ble_eq_true rfl⟩) hP hD hS hA [0, 1] [] [] rfl rfl (by decide) (by decide) [] (fun u_18 => []) (fun _ => rfl) (by decide) (fun r_16 u_18 H locs hw_17 hP hD hS => ?_)
        have hP : va_P D vwCl [] H := hP
        have hD : va_D A [] := hD
        refine hs_topi 1 (hw_17.trans (by first | rfl | decide +kernel | rfl)) ?_
        refine lv_goto (tgt := 32) hx hb dX8_weigh_28 (by decide) ?_
        exact hs_iret hx hb hr hlocks hK hP hD hS () [] rfl (by decide) dX8_weigh_32 (by first | rfl | decide | (simp only [hsb_0, hsb_1] at c_4 c_15; simp [A_weigh, c_4, c_15]; done) | (simp [A_weigh, c_4, c_15]; done))

set_option maxHeartbeats 4000000 in
set_option maxRecDepth 100000 in
theorem q_split (l : Launch) (D : va_G) (k : Nat → ClassId) (sz : Nat) (mo : Nat) (mo_st : Nat) (mo_at : Nat) (mo_isKept : Nat) (mo_draft : Nat) (mo_tape : Nat) (mo_row : Nat) (mo_before : Nat) (mo_lanes : Nat) (mo_sizes : Nat) (mo_cells : Nat) (mo_had : Nat) (i : Int32)  : MI l yX8_split wsX8_split ({ frames := 2, cells := 0, slots := 0, locals := 46 }) D k [.ref mo, .int i] [(mo, .inr (7, [.ref mo_st, .ref mo_at, .ref mo_isKept, .int 0, .int 2, .ref mo_draft, .int 0, .int 2, .int 0, .int (-4), .ref mo_tape, .int 0, .int 0, .int 0, .int 0, .int 0, .int 0, .int 0, .ref mo_row, .int 0, .int 0, .int 0, .int 0, .ref mo_before, .long 0, .long 0, .long 0, .ref mo_lanes, .ref mo_sizes, .ref mo_cells, .int 0, .ref mo_had])), (mo_st, .inl (k 0, 132, .inl (hst)))] sz (fun (r : Int32) (u : Unit) => r = A_split i) (fun (u : Unit) => []) := by
  refine Met.ofW (cc := cX8_split) (maxL := 3) (ret := (some .int)) (by decide) rfl ?_
  intro p e s m args below meth c s₁ B hml hv
  obtain ⟨rfl, hsz, hP, hK, hD0, hN⟩ := hv
  have hx := B.exec
  have hb := B.bytes
  have hr := B.returns
  have hlocks := B.notSynchronized
  have hts := atoms_spec (ws := wsX8_split) B.pre
  have hown : s.vm.findClass RX8 = some m.cls := findClass_of_methodNamed B.named
  have hiX8 : ∀ w ∈ u_ws RX8 TX8 32, w ∈ wsX8_split := by decide +kernel
  have fl7 := hts (.fieldLink RX8 7 "HalfScalesModel" "st" "[I") (by decide +kernel)
  subst hsz
  have hD := hD0.self (sz := s.heap.size)
  generalize hAe : va_A [(mo, .inr (7, [.ref mo_st, .ref mo_at, .ref mo_isKept, .int 0, .int 2, .ref mo_draft, .int 0, .int 2, .int 0, .int (-4), .ref mo_tape, .int 0, .int 0, .int 0, .int 0, .int 0, .int 0, .int 0, .ref mo_row, .int 0, .int 0, .int 0, .int 0, .ref mo_before, .long 0, .long 0, .long 0, .ref mo_lanes, .ref mo_sizes, .ref mo_cells, .int 0, .ref mo_had])), (mo_st, .inl (k 0, 132, .inl (hst)))] s.heap.size = A at hD ⊢
  have hA : ∀ q : Nat, s.heap.size ≤ q → A q := fun q h => by rw [← hAe]; exact Or.inr h
  have hS : va_S A s.heap s.heap [] := va_S.rf
  have hl := lv_entry ([.ref mo, .int i]) (n := 3) (Nat.le_of_ble_eq_true rfl)
  rw [lg_entry_eq]
  generalize (lg_sl ([.ref mo, .int i]) ++ List.replicate (3 - (lg_sl ([.ref mo, .int i])).length) Slot.unset).toArray = ls at hl ⊢
  have hl : lv_has ls 3 [(0, .ref mo), (1, .int i)] := hl
  have hP : va_P D vwCl [(mo, .inr (7, [.ref mo_st, .ref mo_at, .ref mo_isKept, .int 0, .int 2, .ref mo_draft, .int 0, .int 2, .int 0, .int (-4), .ref mo_tape, .int 0, .int 0, .int 0, .int 0, .int 0, .int 0, .int 0, .ref mo_row, .int 0, .int 0, .int 0, .int 0, .ref mo_before, .long 0, .long 0, .long 0, .ref mo_lanes, .ref mo_sizes, .ref mo_cells, .int 0, .ref mo_had])), (mo_st, .inl (k 0, 132, .inl (hst)))] s.heap := hP
  refine lv_aload_n hx hb dX8_split_0 rfl (lv_at hl 0 rfl) ?_
  refine lv_iload_n hx hb dX8_split_1 rfl (lv_at hl 1 rfl) ?_
  refine hs_ci (va_runV (As := [.int i]) (rest := []) ⟨hx, hb, hml, hown, hts⟩ (m_isCell0 l D k _ mo mo_st mo_at mo_isKept mo_draft mo_tape mo_row mo_before mo_lanes mo_sizes mo_cells mo_had i) (cwV 1 hts gX8_split_X8_isCell rfl rfl rfl (by decide +kernel) ⟨Nat.le_of_ble_eq_true rfl, Nat.le_of_ble_eq_true rfl⟩) (hs_preV hK hN (hs_subP (w := [(mo, .inr (7, [.ref mo_st, .ref mo_at, .ref mo_isKept, .int 0, .int 2, .ref mo_draft, .int 0, .int 2, .int 0, .int (-4), .ref mo_tape, .int 0, .int 0, .int 0, .int 0, .int 0, .int 0, .int 0, .ref mo_row, .int 0, .int 0, .int 0, .int 0, .ref mo_before, .long 0, .long 0, .long 0, .ref mo_lanes, .ref mo_sizes, .ref mo_cells, .int 0, .ref mo_had])), (mo_st, .inl (k 0, 132, .inl (hst)))]) hP [0, 1] rfl) (hD.sub (ws' := [(mo, .inr (7, [.ref mo_st, .ref mo_at, .ref mo_isKept, .int 0, .int 2, .ref mo_draft, .int 0, .int 2, .int 0, .int (-4), .ref mo_tape, .int 0, .int 0, .int 0, .int 0, .int 0, .int 0, .int 0, .ref mo_row, .int 0, .int 0, .int 0, .int 0, .ref mo_before, .long 0, .long 0, .long 0, .ref mo_lanes, .ref mo_sizes, .ref mo_cells, .int 0, .ref mo_had])), (mo_st, .inl (k 0, 132, .inl (hst)))]) [0, 1] (by decide) rfl) (ci := 7) (q0 := 0) rfl rfl) rfl rfl hl.1 rfl (lv_room (Nat.le_of_ble_eq_true rfl)) dX8_split_2 ⟨Nat.le_of_ble_eq_true rfl, Nat.le_of_ble_eq_true rfl⟩) hP hD hS hA [0, 1] [] [] rfl rfl (by decide) (by decide) [0, 1] (fun u_3 => [(mo, .inr (7, [.ref mo_st, .ref mo_at, .ref mo_isKept, .int 0, .int 2, .ref mo_draft, .int 0, .int 2, .int 0, .int (-4), .ref mo_tape, .int 0, .int 0, .int 0, .int 0, .int 0, .int 0, .int 0, .ref mo_row, .int 0, .int 0, .int 0, .int 0, .ref mo_before, .long 0, .long 0, .long 0, .ref mo_lanes, .ref mo_sizes, .ref mo_cells, .int 0, .ref mo_had])), (mo_st, .inl (k 0, 132, .inl (hst)))]) (fun _ => rfl) (by decide) (fun r_1 u_3 H locs hw_2 hP hD hS => ?_)
  have hP : va_P D vwCl [(mo, .inr (7, [.ref mo_st, .ref mo_at, .ref mo_isKept, .int 0, .int 2, .ref mo_draft, .int 0, .int 2, .int 0, .int (-4), .ref mo_tape, .int 0, .int 0, .int 0, .int 0, .int 0, .int 0, .int 0, .ref mo_row, .int 0, .int 0, .int 0, .int 0, .ref mo_before, .long 0, .long 0, .long 0, .ref mo_lanes, .ref mo_sizes, .ref mo_cells, .int 0, .ref mo_had])), (mo_st, .inl (k 0, 132, .inl (hst)))] H := hP
  have hD : va_D A [(mo, .inr (7, [.ref mo_st, .ref mo_at, .ref mo_isKept, .int 0, .int 2, .ref mo_draft, .int 0, .int 2, .int 0, .int (-4), .ref mo_tape, .int 0, .int 0, .int 0, .int 0, .int 0, .int 0, .int 0, .ref mo_row, .int 0, .int 0, .int 0, .int 0, .ref mo_before, .long 0, .long 0, .long 0, .ref mo_lanes, .ref mo_sizes, .ref mo_cells, .int 0, .ref mo_had])), (mo_st, .inl (k 0, 132, .inl (hst)))] := hD
  refine hs_topi (hsb (hsin i 0 1)) hw_2 ?_
  refine lv_if_ne (tgt := 10) hx hb dX8_split_5 (by decide) (fun c_4 => ?_) (fun c_4 => ?_)
  · rcases hs_v01 (hs_nb c_4) with rfl | rfl
    · refine lv_aload_n hx hb dX8_split_10 rfl (lv_at hl 0 rfl) ?_
      refine va_get (D := D) (ci := 7) (v := .ref mo_st) (C := RX8) (T := TX8) (N := 32) hx hb hts hiX8 hown hK hP 0 rfl rfl 0 (by decide) fl7 (fun _ h9 => h9) rfl dX8_split_11 ?_
      refine lv_iconst (v := 0) hx hb dX8_split_14 (by decide) ?_
      refine va_iald hx hb hK hP 1 0 rfl rfl (hs_in (by decide)) dX8_split_15 ?_
      refine hs_topi 2 (by first | rfl | decide +kernel) ?_
      refine lv_bipush (v := 8) hx hb dX8_split_16 (by decide) ?_
      refine lv_icmp_ne (tgt := 24) hx hb dX8_split_18 (by decide) (fun c_5 => ?_) (fun c_5 => absurd c_5 (by decide))
      refine lv_aload_n hx hb dX8_split_24 rfl (lv_at hl 0 rfl) ?_
      refine va_get (D := D) (ci := 7) (v := .ref mo_st) (C := RX8) (T := TX8) (N := 32) hx hb hts hiX8 hown hK hP 0 rfl rfl 0 (by decide) fl7 (fun _ h9 => h9) rfl dX8_split_25 ?_
      refine lv_iconst (v := 0) hx hb dX8_split_28 (by decide) ?_
      refine va_iald hx hb hK hP 1 0 rfl rfl (hs_in (by decide)) dX8_split_29 ?_
      refine hs_topi 2 (by first | rfl | decide +kernel) ?_
      refine lv_istore_n (lv' := [(2, .int 2), (0, .ref mo), (1, .int 0)]) hx hb dX8_split_30 rfl hl (by decide) rfl (fun ls hl => ?_)
      refine lv_iload_n hx hb dX8_split_31 rfl (lv_at hl 0 rfl) ?_
      refine lv_iload_n hx hb dX8_split_32 rfl (lv_at hl 2 rfl) ?_
      refine lv_icmp_le (tgt := 60) hx hb dX8_split_33 (by decide) (fun c_6 => absurd c_6 (by decide)) (fun c_6 => ?_)
      refine lv_aload_n hx hb dX8_split_36 rfl (lv_at hl 1 rfl) ?_
      refine va_get (D := D) (ci := 7) (v := .ref mo_st) (C := RX8) (T := TX8) (N := 32) hx hb hts hiX8 hown hK hP 0 rfl rfl 0 (by decide) fl7 (fun _ h9 => h9) rfl dX8_split_37 ?_
      refine lv_iconst (v := 1) hx hb dX8_split_40 (by decide) ?_
      refine lv_iload_n hx hb dX8_split_41 rfl (lv_at hl 0 rfl) ?_
      refine lv_iadd hx hb dX8_split_42 ?_
      refine hs_topi 3 (by first | rfl | decide +kernel) ?_
      refine lv_aload_n hx hb dX8_split_43 rfl (lv_at hl 1 rfl) ?_
      refine va_get (D := D) (ci := 7) (v := .ref mo_st) (C := RX8) (T := TX8) (N := 32) hx hb hts hiX8 hown hK hP 0 rfl rfl 0 (by decide) fl7 (fun _ h9 => h9) rfl dX8_split_44 ?_
      refine lv_iconst (v := 1) hx hb dX8_split_47 (by decide) ?_
      refine lv_iload_n hx hb dX8_split_48 rfl (lv_at hl 0 rfl) ?_
      refine lv_iadd hx hb dX8_split_49 ?_
      refine hs_topi 3 (by first | rfl | decide +kernel) ?_
      refine lv_iconst (v := 1) hx hb dX8_split_50 (by decide) ?_
      refine lv_isub hx hb dX8_split_51 ?_
      refine hs_topi 2 (by first | rfl | decide +kernel) ?_
      refine va_iald hx hb hK hP 1 0 rfl rfl (hs_in (by decide)) dX8_split_52 ?_
      refine hs_topi 1 (by first | rfl | decide +kernel) ?_
      refine va_iast hx hb hK hP hD hS 1 0 rfl rfl (hs_in (by decide)) dX8_split_53 (fun H locs hP hD hS => ?_)
      have hP : va_P D vwCl [(mo, .inr (7, [.ref mo_st, .ref mo_at, .ref mo_isKept, .int 0, .int 2, .ref mo_draft, .int 0, .int 2, .int 0, .int (-4), .ref mo_tape, .int 0, .int 0, .int 0, .int 0, .int 0, .int 0, .int 0, .ref mo_row, .int 0, .int 0, .int 0, .int 0, .ref mo_before, .long 0, .long 0, .long 0, .ref mo_lanes, .ref mo_sizes, .ref mo_cells, .int 0, .ref mo_had])), (mo_st, .inl (k 0, 132, .inl (upd hst 3 1)))] H := hP
      have hD : va_D A [(mo, .inr (7, [.ref mo_st, .ref mo_at, .ref mo_isKept, .int 0, .int 2, .ref mo_draft, .int 0, .int 2, .int 0, .int (-4), .ref mo_tape, .int 0, .int 0, .int 0, .int 0, .int 0, .int 0, .int 0, .ref mo_row, .int 0, .int 0, .int 0, .int 0, .ref mo_before, .long 0, .long 0, .long 0, .ref mo_lanes, .ref mo_sizes, .ref mo_cells, .int 0, .ref mo_had])), (mo_st, .inl (k 0, 132, .inl (upd hst 3 1)))] := hD
      refine lv_iinc (v := 1) (lv' := [(2, .int 1), (0, .ref mo), (1, .int 0)]) hx hb dX8_split_54 hl (k := 0) rfl (by decide) (by decide) rfl (fun ls hl => ?_)
      refine lv_goto (tgt := 31) hx hb dX8_split_57 (by decide) ?_
      refine lv_iload_n hx hb dX8_split_31 rfl (lv_at hl 0 rfl) ?_
      refine lv_iload_n hx hb dX8_split_32 rfl (lv_at hl 2 rfl) ?_
      refine lv_icmp_le (tgt := 60) hx hb dX8_split_33 (by decide) (fun c_7 => absurd c_7 (by decide)) (fun c_7 => ?_)
      refine lv_aload_n hx hb dX8_split_36 rfl (lv_at hl 1 rfl) ?_
      refine va_get (D := D) (ci := 7) (v := .ref mo_st) (C := RX8) (T := TX8) (N := 32) hx hb hts hiX8 hown hK hP 0 rfl rfl 0 (by decide) fl7 (fun _ h9 => h9) rfl dX8_split_37 ?_
      refine lv_iconst (v := 1) hx hb dX8_split_40 (by decide) ?_
      refine lv_iload_n hx hb dX8_split_41 rfl (lv_at hl 0 rfl) ?_
      refine lv_iadd hx hb dX8_split_42 ?_
      refine hs_topi 2 (by first | rfl | decide +kernel) ?_
      refine lv_aload_n hx hb dX8_split_43 rfl (lv_at hl 1 rfl) ?_
      refine va_get (D := D) (ci := 7) (v := .ref mo_st) (C := RX8) (T := TX8) (N := 32) hx hb hts hiX8 hown hK hP 0 rfl rfl 0 (by decide) fl7 (fun _ h9 => h9) rfl dX8_split_44 ?_
      refine lv_iconst (v := 1) hx hb dX8_split_47 (by decide) ?_
      refine lv_iload_n hx hb dX8_split_48 rfl (lv_at hl 0 rfl) ?_
      refine lv_iadd hx hb dX8_split_49 ?_
      refine hs_topi 2 (by first | rfl | decide +kernel) ?_
      refine lv_iconst (v := 1) hx hb dX8_split_50 (by decide) ?_
      refine lv_isub hx hb dX8_split_51 ?_
      refine hs_topi 1 (by first | rfl | decide +kernel) ?_
      refine va_iald hx hb hK hP 1 0 rfl rfl (hs_in (by decide)) dX8_split_52 ?_
      refine hs_topi 1 (by first | rfl | decide +kernel) ?_
      refine va_iast hx hb hK hP hD hS 1 0 rfl rfl (hs_in (by decide)) dX8_split_53 (fun H locs hP hD hS => ?_)
      have hP : va_P D vwCl [(mo, .inr (7, [.ref mo_st, .ref mo_at, .ref mo_isKept, .int 0, .int 2, .ref mo_draft, .int 0, .int 2, .int 0, .int (-4), .ref mo_tape, .int 0, .int 0, .int 0, .int 0, .int 0, .int 0, .int 0, .ref mo_row, .int 0, .int 0, .int 0, .int 0, .ref mo_before, .long 0, .long 0, .long 0, .ref mo_lanes, .ref mo_sizes, .ref mo_cells, .int 0, .ref mo_had])), (mo_st, .inl (k 0, 132, .inl (upd (upd hst 3 1) 2 1)))] H := hP
      have hD : va_D A [(mo, .inr (7, [.ref mo_st, .ref mo_at, .ref mo_isKept, .int 0, .int 2, .ref mo_draft, .int 0, .int 2, .int 0, .int (-4), .ref mo_tape, .int 0, .int 0, .int 0, .int 0, .int 0, .int 0, .int 0, .ref mo_row, .int 0, .int 0, .int 0, .int 0, .ref mo_before, .long 0, .long 0, .long 0, .ref mo_lanes, .ref mo_sizes, .ref mo_cells, .int 0, .ref mo_had])), (mo_st, .inl (k 0, 132, .inl (upd (upd hst 3 1) 2 1)))] := hD
      refine lv_iinc (v := 0) (lv' := [(2, .int 0), (0, .ref mo), (1, .int 0)]) hx hb dX8_split_54 hl (k := 0) rfl (by decide) (by decide) rfl (fun ls hl => ?_)
      refine lv_goto (tgt := 31) hx hb dX8_split_57 (by decide) ?_
      refine lv_iload_n hx hb dX8_split_31 rfl (lv_at hl 0 rfl) ?_
      refine lv_iload_n hx hb dX8_split_32 rfl (lv_at hl 2 rfl) ?_
      refine lv_icmp_le (tgt := 60) hx hb dX8_split_33 (by decide) (fun c_8 => ?_) (fun c_8 => absurd c_8 (by decide))
      refine lv_aload_n hx hb dX8_split_60 rfl (lv_at hl 1 rfl) ?_
      refine va_get (D := D) (ci := 7) (v := .ref mo_st) (C := RX8) (T := TX8) (N := 32) hx hb hts hiX8 hown hK hP 0 rfl rfl 0 (by decide) fl7 (fun _ h9 => h9) rfl dX8_split_61 ?_
      refine lv_iconst (v := 1) hx hb dX8_split_64 (by decide) ?_
      refine lv_iload_n hx hb dX8_split_65 rfl (lv_at hl 2 rfl) ?_
      refine lv_iadd hx hb dX8_split_66 ?_
      refine hs_topi 1 (by first | rfl | decide +kernel) ?_
      refine va_iald hx hb hK hP 1 0 rfl rfl (hs_in (by decide)) dX8_split_67 ?_
      refine hs_topi 1 (by first | rfl | decide +kernel) ?_
      refine lv_istore_n (lv' := [(2, .int 1), (0, .ref mo), (1, .int 0)]) hx hb dX8_split_68 rfl hl (by decide) rfl (fun ls hl => ?_)
      refine lv_aload_n hx hb dX8_split_69 rfl (lv_at hl 1 rfl) ?_
      refine va_get (D := D) (ci := 7) (v := .ref mo_st) (C := RX8) (T := TX8) (N := 32) hx hb hts hiX8 hown hK hP 0 rfl rfl 0 (by decide) fl7 (fun _ h9 => h9) rfl dX8_split_70 ?_
      refine lv_iconst (v := 1) hx hb dX8_split_73 (by decide) ?_
      refine lv_iload_n hx hb dX8_split_74 rfl (lv_at hl 2 rfl) ?_
      refine lv_iadd hx hb dX8_split_75 ?_
      refine hs_topi 1 (by first | rfl | decide +kernel) ?_
      refine lv_iload_n hx hb dX8_split_76 rfl (lv_at hl 0 rfl) ?_
      refine lv_iload_n hx hb dX8_split_77 rfl (lv_at hl 0 rfl) ?_
      refine lv_iconst (v := 2) hx hb dX8_split_78 (by decide) ?_
      refine lv_idiv hx hb dX8_split_79 (by decide) ?_
      refine hs_topi 0 (by first | rfl | decide +kernel) ?_
      refine lv_isub hx hb dX8_split_80 ?_
      refine hs_topi 1 (by first | rfl | decide +kernel) ?_
      refine va_iast hx hb hK hP hD hS 1 0 rfl rfl (hs_in (by decide)) dX8_split_81 (fun H locs hP hD hS => ?_)
      have hP : va_P D vwCl [(mo, .inr (7, [.ref mo_st, .ref mo_at, .ref mo_isKept, .int 0, .int 2, .ref mo_draft, .int 0, .int 2, .int 0, .int (-4), .ref mo_tape, .int 0, .int 0, .int 0, .int 0, .int 0, .int 0, .int 0, .ref mo_row, .int 0, .int 0, .int 0, .int 0, .ref mo_before, .long 0, .long 0, .long 0, .ref mo_lanes, .ref mo_sizes, .ref mo_cells, .int 0, .ref mo_had])), (mo_st, .inl (k 0, 132, .inl (upd (upd (upd hst 3 1) 2 1) 1 1)))] H := hP
      have hD : va_D A [(mo, .inr (7, [.ref mo_st, .ref mo_at, .ref mo_isKept, .int 0, .int 2, .ref mo_draft, .int 0, .int 2, .int 0, .int (-4), .ref mo_tape, .int 0, .int 0, .int 0, .int 0, .int 0, .int 0, .int 0, .ref mo_row, .int 0, .int 0, .int 0, .int 0, .ref mo_before, .long 0, .long 0, .long 0, .ref mo_lanes, .ref mo_sizes, .ref mo_cells, .int 0, .ref mo_had])), (mo_st, .inl (k 0, 132, .inl (upd (upd (upd hst 3 1) 2 1) 1 1)))] := hD
      refine lv_aload_n hx hb dX8_split_82 rfl (lv_at hl 1 rfl) ?_
      refine va_get (D := D) (ci := 7) (v := .ref mo_st) (C := RX8) (T := TX8) (N := 32) hx hb hts hiX8 hown hK hP 0 rfl rfl 0 (by decide) fl7 (fun _ h9 => h9) rfl dX8_split_83 ?_
      refine lv_iconst (v := 1) hx hb dX8_split_86 (by decide) ?_
      refine lv_iload_n hx hb dX8_split_87 rfl (lv_at hl 2 rfl) ?_
      refine lv_iadd hx hb dX8_split_88 ?_
      refine hs_topi 1 (by first | rfl | decide +kernel) ?_
      refine lv_iconst (v := 1) hx hb dX8_split_89 (by decide) ?_
      refine lv_iadd hx hb dX8_split_90 ?_
      refine hs_topi 2 (by first | rfl | decide +kernel) ?_
      refine lv_iload_n hx hb dX8_split_91 rfl (lv_at hl 0 rfl) ?_
      refine lv_iconst (v := 2) hx hb dX8_split_92 (by decide) ?_
      refine lv_idiv hx hb dX8_split_93 (by decide) ?_
      refine hs_topi 0 (by first | rfl | decide +kernel) ?_
      refine va_iast hx hb hK hP hD hS 1 0 rfl rfl (hs_in (by decide)) dX8_split_94 (fun H locs hP hD hS => ?_)
      have hP : va_P D vwCl [(mo, .inr (7, [.ref mo_st, .ref mo_at, .ref mo_isKept, .int 0, .int 2, .ref mo_draft, .int 0, .int 2, .int 0, .int (-4), .ref mo_tape, .int 0, .int 0, .int 0, .int 0, .int 0, .int 0, .int 0, .ref mo_row, .int 0, .int 0, .int 0, .int 0, .ref mo_before, .long 0, .long 0, .long 0, .ref mo_lanes, .ref mo_sizes, .ref mo_cells, .int 0, .ref mo_had])), (mo_st, .inl (k 0, 132, .inl (upd (upd (upd (upd hst 3 1) 2 1) 1 1) 2 0)))] H := hP
      have hD : va_D A [(mo, .inr (7, [.ref mo_st, .ref mo_at, .ref mo_isKept, .int 0, .int 2, .ref mo_draft, .int 0, .int 2, .int 0, .int (-4), .ref mo_tape, .int 0, .int 0, .int 0, .int 0, .int 0, .int 0, .int 0, .ref mo_row, .int 0, .int 0, .int 0, .int 0, .ref mo_before, .long 0, .long 0, .long 0, .ref mo_lanes, .ref mo_sizes, .ref mo_cells, .int 0, .ref mo_had])), (mo_st, .inl (k 0, 132, .inl (upd (upd (upd (upd hst 3 1) 2 1) 1 1) 2 0)))] := hD
      refine lv_aload_n hx hb dX8_split_95 rfl (lv_at hl 1 rfl) ?_
      refine va_get (D := D) (ci := 7) (v := .ref mo_st) (C := RX8) (T := TX8) (N := 32) hx hb hts hiX8 hown hK hP 0 rfl rfl 0 (by decide) fl7 (fun _ h9 => h9) rfl dX8_split_96 ?_
      refine lv_iconst (v := 0) hx hb dX8_split_99 (by decide) ?_
      refine lv_dup2_11 hx hb dX8_split_100 rfl rfl ?_
      refine va_iald hx hb hK hP 1 0 rfl rfl (hs_in (by decide)) dX8_split_101 ?_
      refine hs_topi 2 (by first | rfl | decide +kernel) ?_
      refine lv_iconst (v := 1) hx hb dX8_split_102 (by decide) ?_
      refine lv_iadd hx hb dX8_split_103 ?_
      refine hs_topi 3 (by first | rfl | decide +kernel) ?_
      refine va_iast hx hb hK hP hD hS 1 0 rfl rfl (hs_in (by decide)) dX8_split_104 (fun H locs hP hD hS => ?_)
      have hP : va_P D vwCl [(mo, .inr (7, [.ref mo_st, .ref mo_at, .ref mo_isKept, .int 0, .int 2, .ref mo_draft, .int 0, .int 2, .int 0, .int (-4), .ref mo_tape, .int 0, .int 0, .int 0, .int 0, .int 0, .int 0, .int 0, .ref mo_row, .int 0, .int 0, .int 0, .int 0, .ref mo_before, .long 0, .long 0, .long 0, .ref mo_lanes, .ref mo_sizes, .ref mo_cells, .int 0, .ref mo_had])), (mo_st, .inl (k 0, 132, .inl (upd (upd (upd (upd (upd hst 3 1) 2 1) 1 1) 2 0) 0 3)))] H := hP
      have hD : va_D A [(mo, .inr (7, [.ref mo_st, .ref mo_at, .ref mo_isKept, .int 0, .int 2, .ref mo_draft, .int 0, .int 2, .int 0, .int (-4), .ref mo_tape, .int 0, .int 0, .int 0, .int 0, .int 0, .int 0, .int 0, .ref mo_row, .int 0, .int 0, .int 0, .int 0, .ref mo_before, .long 0, .long 0, .long 0, .ref mo_lanes, .ref mo_sizes, .ref mo_cells, .int 0, .ref mo_had])), (mo_st, .inl (k 0, 132, .inl (upd (upd (upd (upd (upd hst 3 1) 2 1) 1 1) 2 0) 0 3)))] := hD
      refine lv_aload_n hx hb dX8_split_105 rfl (lv_at hl 1 rfl) ?_
      refine va_get (D := D) (ci := 7) (v := .ref mo_st) (C := RX8) (T := TX8) (N := 32) hx hb hts hiX8 hown hK hP 0 rfl rfl 0 (by decide) fl7 (fun _ h9 => h9) rfl dX8_split_106 ?_
      refine lv_iconst (v := 0) hx hb dX8_split_109 (by decide) ?_
      refine va_iald hx hb hK hP 1 0 rfl rfl (hs_in (by decide)) dX8_split_110 ?_
      refine hs_topi 3 (by first | rfl | decide +kernel) ?_
      exact hs_iret hx hb hr hlocks hK hP hD hS () [] rfl (by decide) dX8_split_111 (by first | rfl | decide | (simp only [hsb_0, hsb_1] at c_4 c_5 c_6 c_7 c_8; simp [A_split, c_4, c_5, c_6, c_7, c_8]; done) | (simp [A_split, c_4, c_5, c_6, c_7, c_8]; done))
    · refine lv_aload_n hx hb dX8_split_10 rfl (lv_at hl 0 rfl) ?_
      refine va_get (D := D) (ci := 7) (v := .ref mo_st) (C := RX8) (T := TX8) (N := 32) hx hb hts hiX8 hown hK hP 0 rfl rfl 0 (by decide) fl7 (fun _ h9 => h9) rfl dX8_split_11 ?_
      refine lv_iconst (v := 0) hx hb dX8_split_14 (by decide) ?_
      refine va_iald hx hb hK hP 1 0 rfl rfl (hs_in (by decide)) dX8_split_15 ?_
      refine hs_topi 2 (by first | rfl | decide +kernel) ?_
      refine lv_bipush (v := 8) hx hb dX8_split_16 (by decide) ?_
      refine lv_icmp_ne (tgt := 24) hx hb dX8_split_18 (by decide) (fun c_9 => ?_) (fun c_9 => absurd c_9 (by decide))
      refine lv_aload_n hx hb dX8_split_24 rfl (lv_at hl 0 rfl) ?_
      refine va_get (D := D) (ci := 7) (v := .ref mo_st) (C := RX8) (T := TX8) (N := 32) hx hb hts hiX8 hown hK hP 0 rfl rfl 0 (by decide) fl7 (fun _ h9 => h9) rfl dX8_split_25 ?_
      refine lv_iconst (v := 0) hx hb dX8_split_28 (by decide) ?_
      refine va_iald hx hb hK hP 1 0 rfl rfl (hs_in (by decide)) dX8_split_29 ?_
      refine hs_topi 2 (by first | rfl | decide +kernel) ?_
      refine lv_istore_n (lv' := [(2, .int 2), (0, .ref mo), (1, .int 1)]) hx hb dX8_split_30 rfl hl (by decide) rfl (fun ls hl => ?_)
      refine lv_iload_n hx hb dX8_split_31 rfl (lv_at hl 0 rfl) ?_
      refine lv_iload_n hx hb dX8_split_32 rfl (lv_at hl 2 rfl) ?_
      refine lv_icmp_le (tgt := 60) hx hb dX8_split_33 (by decide) (fun c_10 => absurd c_10 (by decide)) (fun c_10 => ?_)
      refine lv_aload_n hx hb dX8_split_36 rfl (lv_at hl 1 rfl) ?_
      refine va_get (D := D) (ci := 7) (v := .ref mo_st) (C := RX8) (T := TX8) (N := 32) hx hb hts hiX8 hown hK hP 0 rfl rfl 0 (by decide) fl7 (fun _ h9 => h9) rfl dX8_split_37 ?_
      refine lv_iconst (v := 1) hx hb dX8_split_40 (by decide) ?_
      refine lv_iload_n hx hb dX8_split_41 rfl (lv_at hl 0 rfl) ?_
      refine lv_iadd hx hb dX8_split_42 ?_
      refine hs_topi 3 (by first | rfl | decide +kernel) ?_
      refine lv_aload_n hx hb dX8_split_43 rfl (lv_at hl 1 rfl) ?_
      refine va_get (D := D) (ci := 7) (v := .ref mo_st) (C := RX8) (T := TX8) (N := 32) hx hb hts hiX8 hown hK hP 0 rfl rfl 0 (by decide) fl7 (fun _ h9 => h9) rfl dX8_split_44 ?_
      refine lv_iconst (v := 1) hx hb dX8_split_47 (by decide) ?_
      refine lv_iload_n hx hb dX8_split_48 rfl (lv_at hl 0 rfl) ?_
      refine lv_iadd hx hb dX8_split_49 ?_
      refine hs_topi 3 (by first | rfl | decide +kernel) ?_
      refine lv_iconst (v := 1) hx hb dX8_split_50 (by decide) ?_
      refine lv_isub hx hb dX8_split_51 ?_
      refine hs_topi 2 (by first | rfl | decide +kernel) ?_
      refine va_iald hx hb hK hP 1 0 rfl rfl (hs_in (by decide)) dX8_split_52 ?_
      refine hs_topi 1 (by first | rfl | decide +kernel) ?_
      refine va_iast hx hb hK hP hD hS 1 0 rfl rfl (hs_in (by decide)) dX8_split_53 (fun H locs hP hD hS => ?_)
      have hP : va_P D vwCl [(mo, .inr (7, [.ref mo_st, .ref mo_at, .ref mo_isKept, .int 0, .int 2, .ref mo_draft, .int 0, .int 2, .int 0, .int (-4), .ref mo_tape, .int 0, .int 0, .int 0, .int 0, .int 0, .int 0, .int 0, .ref mo_row, .int 0, .int 0, .int 0, .int 0, .ref mo_before, .long 0, .long 0, .long 0, .ref mo_lanes, .ref mo_sizes, .ref mo_cells, .int 0, .ref mo_had])), (mo_st, .inl (k 0, 132, .inl (upd hst 3 1)))] H := hP
      have hD : va_D A [(mo, .inr (7, [.ref mo_st, .ref mo_at, .ref mo_isKept, .int 0, .int 2, .ref mo_draft, .int 0, .int 2, .int 0, .int (-4), .ref mo_tape, .int 0, .int 0, .int 0, .int 0, .int 0, .int 0, .int 0, .ref mo_row, .int 0, .int 0, .int 0, .int 0, .ref mo_before, .long 0, .long 0, .long 0, .ref mo_lanes, .ref mo_sizes, .ref mo_cells, .int 0, .ref mo_had])), (mo_st, .inl (k 0, 132, .inl (upd hst 3 1)))] := hD
      refine lv_iinc (v := 1) (lv' := [(2, .int 1), (0, .ref mo), (1, .int 1)]) hx hb dX8_split_54 hl (k := 0) rfl (by decide) (by decide) rfl (fun ls hl => ?_)
      refine lv_goto (tgt := 31) hx hb dX8_split_57 (by decide) ?_
      refine lv_iload_n hx hb dX8_split_31 rfl (lv_at hl 0 rfl) ?_
      refine lv_iload_n hx hb dX8_split_32 rfl (lv_at hl 2 rfl) ?_
      refine lv_icmp_le (tgt := 60) hx hb dX8_split_33 (by decide) (fun c_11 => ?_) (fun c_11 => absurd c_11 (by decide))
      refine lv_aload_n hx hb dX8_split_60 rfl (lv_at hl 1 rfl) ?_
      refine va_get (D := D) (ci := 7) (v := .ref mo_st) (C := RX8) (T := TX8) (N := 32) hx hb hts hiX8 hown hK hP 0 rfl rfl 0 (by decide) fl7 (fun _ h9 => h9) rfl dX8_split_61 ?_
      refine lv_iconst (v := 1) hx hb dX8_split_64 (by decide) ?_
      refine lv_iload_n hx hb dX8_split_65 rfl (lv_at hl 2 rfl) ?_
      refine lv_iadd hx hb dX8_split_66 ?_
      refine hs_topi 2 (by first | rfl | decide +kernel) ?_
      refine va_iald hx hb hK hP 1 0 rfl rfl (hs_in (by decide)) dX8_split_67 ?_
      refine hs_topi 1 (by first | rfl | decide +kernel) ?_
      refine lv_istore_n (lv' := [(2, .int 1), (0, .ref mo), (1, .int 1)]) hx hb dX8_split_68 rfl hl (by decide) rfl (fun ls hl => ?_)
      refine lv_aload_n hx hb dX8_split_69 rfl (lv_at hl 1 rfl) ?_
      refine va_get (D := D) (ci := 7) (v := .ref mo_st) (C := RX8) (T := TX8) (N := 32) hx hb hts hiX8 hown hK hP 0 rfl rfl 0 (by decide) fl7 (fun _ h9 => h9) rfl dX8_split_70 ?_
      refine lv_iconst (v := 1) hx hb dX8_split_73 (by decide) ?_
      refine lv_iload_n hx hb dX8_split_74 rfl (lv_at hl 2 rfl) ?_
      refine lv_iadd hx hb dX8_split_75 ?_
      refine hs_topi 2 (by first | rfl | decide +kernel) ?_
      refine lv_iload_n hx hb dX8_split_76 rfl (lv_at hl 0 rfl) ?_
      refine lv_iload_n hx hb dX8_split_77 rfl (lv_at hl 0 rfl) ?_
      refine lv_iconst (v := 2) hx hb dX8_split_78 (by decide) ?_
      refine lv_idiv hx hb dX8_split_79 (by decide) ?_
      refine hs_topi 0 (by first | rfl | decide +kernel) ?_
      refine lv_isub hx hb dX8_split_80 ?_
      refine hs_topi 1 (by first | rfl | decide +kernel) ?_
      refine va_iast hx hb hK hP hD hS 1 0 rfl rfl (hs_in (by decide)) dX8_split_81 (fun H locs hP hD hS => ?_)
      have hP : va_P D vwCl [(mo, .inr (7, [.ref mo_st, .ref mo_at, .ref mo_isKept, .int 0, .int 2, .ref mo_draft, .int 0, .int 2, .int 0, .int (-4), .ref mo_tape, .int 0, .int 0, .int 0, .int 0, .int 0, .int 0, .int 0, .ref mo_row, .int 0, .int 0, .int 0, .int 0, .ref mo_before, .long 0, .long 0, .long 0, .ref mo_lanes, .ref mo_sizes, .ref mo_cells, .int 0, .ref mo_had])), (mo_st, .inl (k 0, 132, .inl (upd (upd hst 3 1) 2 1)))] H := hP
      have hD : va_D A [(mo, .inr (7, [.ref mo_st, .ref mo_at, .ref mo_isKept, .int 0, .int 2, .ref mo_draft, .int 0, .int 2, .int 0, .int (-4), .ref mo_tape, .int 0, .int 0, .int 0, .int 0, .int 0, .int 0, .int 0, .ref mo_row, .int 0, .int 0, .int 0, .int 0, .ref mo_before, .long 0, .long 0, .long 0, .ref mo_lanes, .ref mo_sizes, .ref mo_cells, .int 0, .ref mo_had])), (mo_st, .inl (k 0, 132, .inl (upd (upd hst 3 1) 2 1)))] := hD
      refine lv_aload_n hx hb dX8_split_82 rfl (lv_at hl 1 rfl) ?_
      refine va_get (D := D) (ci := 7) (v := .ref mo_st) (C := RX8) (T := TX8) (N := 32) hx hb hts hiX8 hown hK hP 0 rfl rfl 0 (by decide) fl7 (fun _ h9 => h9) rfl dX8_split_83 ?_
      refine lv_iconst (v := 1) hx hb dX8_split_86 (by decide) ?_
      refine lv_iload_n hx hb dX8_split_87 rfl (lv_at hl 2 rfl) ?_
      refine lv_iadd hx hb dX8_split_88 ?_
      refine hs_topi 2 (by first | rfl | decide +kernel) ?_
      refine lv_iconst (v := 1) hx hb dX8_split_89 (by decide) ?_
      refine lv_iadd hx hb dX8_split_90 ?_
      refine hs_topi 3 (by first | rfl | decide +kernel) ?_
      refine lv_iload_n hx hb dX8_split_91 rfl (lv_at hl 0 rfl) ?_
      refine lv_iconst (v := 2) hx hb dX8_split_92 (by decide) ?_
      refine lv_idiv hx hb dX8_split_93 (by decide) ?_
      refine hs_topi 0 (by first | rfl | decide +kernel) ?_
      refine va_iast hx hb hK hP hD hS 1 0 rfl rfl (hs_in (by decide)) dX8_split_94 (fun H locs hP hD hS => ?_)
      have hP : va_P D vwCl [(mo, .inr (7, [.ref mo_st, .ref mo_at, .ref mo_isKept, .int 0, .int 2, .ref mo_draft, .int 0, .int 2, .int 0, .int (-4), .ref mo_tape, .int 0, .int 0, .int 0, .int 0, .int 0, .int 0, .int 0, .ref mo_row, .int 0, .int 0, .int 0, .int 0, .ref mo_before, .long 0, .long 0, .long 0, .ref mo_lanes, .ref mo_sizes, .ref mo_cells, .int 0, .ref mo_had])), (mo_st, .inl (k 0, 132, .inl (upd (upd (upd hst 3 1) 2 1) 3 0)))] H := hP
      have hD : va_D A [(mo, .inr (7, [.ref mo_st, .ref mo_at, .ref mo_isKept, .int 0, .int 2, .ref mo_draft, .int 0, .int 2, .int 0, .int (-4), .ref mo_tape, .int 0, .int 0, .int 0, .int 0, .int 0, .int 0, .int 0, .ref mo_row, .int 0, .int 0, .int 0, .int 0, .ref mo_before, .long 0, .long 0, .long 0, .ref mo_lanes, .ref mo_sizes, .ref mo_cells, .int 0, .ref mo_had])), (mo_st, .inl (k 0, 132, .inl (upd (upd (upd hst 3 1) 2 1) 3 0)))] := hD
      refine lv_aload_n hx hb dX8_split_95 rfl (lv_at hl 1 rfl) ?_
      refine va_get (D := D) (ci := 7) (v := .ref mo_st) (C := RX8) (T := TX8) (N := 32) hx hb hts hiX8 hown hK hP 0 rfl rfl 0 (by decide) fl7 (fun _ h9 => h9) rfl dX8_split_96 ?_
      refine lv_iconst (v := 0) hx hb dX8_split_99 (by decide) ?_
      refine lv_dup2_11 hx hb dX8_split_100 rfl rfl ?_
      refine va_iald hx hb hK hP 1 0 rfl rfl (hs_in (by decide)) dX8_split_101 ?_
      refine hs_topi 2 (by first | rfl | decide +kernel) ?_
      refine lv_iconst (v := 1) hx hb dX8_split_102 (by decide) ?_
      refine lv_iadd hx hb dX8_split_103 ?_
      refine hs_topi 3 (by first | rfl | decide +kernel) ?_
      refine va_iast hx hb hK hP hD hS 1 0 rfl rfl (hs_in (by decide)) dX8_split_104 (fun H locs hP hD hS => ?_)
      have hP : va_P D vwCl [(mo, .inr (7, [.ref mo_st, .ref mo_at, .ref mo_isKept, .int 0, .int 2, .ref mo_draft, .int 0, .int 2, .int 0, .int (-4), .ref mo_tape, .int 0, .int 0, .int 0, .int 0, .int 0, .int 0, .int 0, .ref mo_row, .int 0, .int 0, .int 0, .int 0, .ref mo_before, .long 0, .long 0, .long 0, .ref mo_lanes, .ref mo_sizes, .ref mo_cells, .int 0, .ref mo_had])), (mo_st, .inl (k 0, 132, .inl (upd (upd (upd (upd hst 3 1) 2 1) 3 0) 0 3)))] H := hP
      have hD : va_D A [(mo, .inr (7, [.ref mo_st, .ref mo_at, .ref mo_isKept, .int 0, .int 2, .ref mo_draft, .int 0, .int 2, .int 0, .int (-4), .ref mo_tape, .int 0, .int 0, .int 0, .int 0, .int 0, .int 0, .int 0, .ref mo_row, .int 0, .int 0, .int 0, .int 0, .ref mo_before, .long 0, .long 0, .long 0, .ref mo_lanes, .ref mo_sizes, .ref mo_cells, .int 0, .ref mo_had])), (mo_st, .inl (k 0, 132, .inl (upd (upd (upd (upd hst 3 1) 2 1) 3 0) 0 3)))] := hD
      refine lv_aload_n hx hb dX8_split_105 rfl (lv_at hl 1 rfl) ?_
      refine va_get (D := D) (ci := 7) (v := .ref mo_st) (C := RX8) (T := TX8) (N := 32) hx hb hts hiX8 hown hK hP 0 rfl rfl 0 (by decide) fl7 (fun _ h9 => h9) rfl dX8_split_106 ?_
      refine lv_iconst (v := 0) hx hb dX8_split_109 (by decide) ?_
      refine va_iald hx hb hK hP 1 0 rfl rfl (hs_in (by decide)) dX8_split_110 ?_
      refine hs_topi 3 (by first | rfl | decide +kernel) ?_
      exact hs_iret hx hb hr hlocks hK hP hD hS () [] rfl (by decide) dX8_split_111 (by first | rfl | decide | (simp only [hsb_0, hsb_1] at c_4 c_9 c_10 c_11; simp [A_split, c_4, c_9, c_10, c_11]; done) | (simp [A_split, c_4, c_9, c_10, c_11]; done))
  · refine lv_iconst (v := (-1)) hx hb dX8_split_8 (by decide) ?_
    exact hs_iret hx hb hr hlocks hK hP hD hS () [] rfl (by decide) dX8_split_9 (by first | rfl | decide | (simp only [hsb_0, hsb_1] at c_4; simp [A_split, c_4]; done) | (simp [A_split, c_4]; done))

set_option maxHeartbeats 4000000 in
set_option maxRecDepth 100000 in
theorem q_join (l : Launch) (D : va_G) (k : Nat → ClassId) (sz : Nat) (mo : Nat) (mo_st : Nat) (mo_at : Nat) (mo_isKept : Nat) (mo_draft : Nat) (mo_tape : Nat) (mo_row : Nat) (mo_before : Nat) (mo_lanes : Nat) (mo_sizes : Nat) (mo_cells : Nat) (mo_had : Nat) (i : Int32)  : MI l yX8_join wsX8_join ({ frames := 1, cells := 0, slots := 0, locals := 25 }) D k [.ref mo, .int i] [(mo, .inr (7, [.ref mo_st, .ref mo_at, .ref mo_isKept, .int 0, .int 2, .ref mo_draft, .int 0, .int 2, .int 0, .int (-4), .ref mo_tape, .int 0, .int 0, .int 0, .int 0, .int 0, .int 0, .int 0, .ref mo_row, .int 0, .int 0, .int 0, .int 0, .ref mo_before, .long 0, .long 0, .long 0, .ref mo_lanes, .ref mo_sizes, .ref mo_cells, .int 0, .ref mo_had])), (mo_st, .inl (k 0, 132, .inl (hst)))] sz (fun (r : Int32) (u : Unit) => r = A_join i) (fun (u : Unit) => []) := by
  refine Met.ofW (cc := cX8_join) (maxL := 4) (ret := (some .int)) (by decide) rfl ?_
  intro p e s m args below meth c s₁ B hml hv
  obtain ⟨rfl, hsz, hP, hK, hD0, hN⟩ := hv
  have hx := B.exec
  have hb := B.bytes
  have hr := B.returns
  have hlocks := B.notSynchronized
  have hts := atoms_spec (ws := wsX8_join) B.pre
  have hown : s.vm.findClass RX8 = some m.cls := findClass_of_methodNamed B.named
  have hiX8 : ∀ w ∈ u_ws RX8 TX8 32, w ∈ wsX8_join := by decide +kernel
  have fl7 := hts (.fieldLink RX8 7 "HalfScalesModel" "st" "[I") (by decide +kernel)
  subst hsz
  have hD := hD0.self (sz := s.heap.size)
  generalize hAe : va_A [(mo, .inr (7, [.ref mo_st, .ref mo_at, .ref mo_isKept, .int 0, .int 2, .ref mo_draft, .int 0, .int 2, .int 0, .int (-4), .ref mo_tape, .int 0, .int 0, .int 0, .int 0, .int 0, .int 0, .int 0, .ref mo_row, .int 0, .int 0, .int 0, .int 0, .ref mo_before, .long 0, .long 0, .long 0, .ref mo_lanes, .ref mo_sizes, .ref mo_cells, .int 0, .ref mo_had])), (mo_st, .inl (k 0, 132, .inl (hst)))] s.heap.size = A at hD ⊢
  have hA : ∀ q : Nat, s.heap.size ≤ q → A q := fun q h => by rw [← hAe]; exact Or.inr h
  have hS : va_S A s.heap s.heap [] := va_S.rf
  have hl := lv_entry ([.ref mo, .int i]) (n := 4) (Nat.le_of_ble_eq_true rfl)
  rw [lg_entry_eq]
  generalize (lg_sl ([.ref mo, .int i]) ++ List.replicate (4 - (lg_sl ([.ref mo, .int i])).length) Slot.unset).toArray = ls at hl ⊢
  have hl : lv_has ls 4 [(0, .ref mo), (1, .int i)] := hl
  have hP : va_P D vwCl [(mo, .inr (7, [.ref mo_st, .ref mo_at, .ref mo_isKept, .int 0, .int 2, .ref mo_draft, .int 0, .int 2, .int 0, .int (-4), .ref mo_tape, .int 0, .int 0, .int 0, .int 0, .int 0, .int 0, .int 0, .ref mo_row, .int 0, .int 0, .int 0, .int 0, .ref mo_before, .long 0, .long 0, .long 0, .ref mo_lanes, .ref mo_sizes, .ref mo_cells, .int 0, .ref mo_had])), (mo_st, .inl (k 0, 132, .inl (hst)))] s.heap := hP
  refine lv_iload_n hx hb dX8_join_0 rfl (lv_at hl 1 rfl) ?_
  refine lv_i2l hx hb dX8_join_1 rfl ?_
  refine lv_lconst (v := 0) hx hb dX8_join_2 (by decide) ?_
  refine lv_aload_n hx hb dX8_join_3 rfl (lv_at hl 0 rfl) ?_
  refine va_get (D := D) (ci := 7) (v := .ref mo_st) (C := RX8) (T := TX8) (N := 32) hx hb hts hiX8 hown hK hP 0 rfl rfl 0 (by decide) fl7 (fun _ h9 => h9) rfl dX8_join_4 ?_
  refine lv_iconst (v := 0) hx hb dX8_join_7 (by decide) ?_
  refine va_iald hx hb hK hP 1 0 rfl rfl (hs_in (by decide)) dX8_join_8 ?_
  refine hs_topi 2 (by first | rfl | decide +kernel) ?_
  refine lv_iconst (v := 2) hx hb dX8_join_9 (by decide) ?_
  refine lv_isub hx hb dX8_join_10 ?_
  refine hs_topi 0 (by first | rfl | decide +kernel) ?_
  refine lv_i2l (v := 0) hx hb dX8_join_11 (by decide +kernel) ?_
  refine hs_pi (va_runS (As := [.long (((i) : Int32).toInt64), .long 0, .long 0]) (rest := []) ⟨hx, hb, hml, hown, hts⟩ (m_in l D k _ i 0 0) (va_cwS 3 hts gX8_join_X8_in rfl rfl rfl (by decide +kernel) ⟨Nat.le_of_ble_eq_true rfl, Nat.le_of_ble_eq_true rfl⟩) (hs_preS hK hN (hs_subP (w := []) hP [] rfl) (hD.sub (ws' := []) [] (by decide) rfl)) rfl rfl hl.1 rfl (lv_room (Nat.le_of_ble_eq_true rfl)) dX8_join_12 ⟨Nat.le_of_ble_eq_true rfl, Nat.le_of_ble_eq_true rfl⟩) hP hD hS hA (fun r_1 u_3 H locs hw_2 hP hS => ?_)
  refine hs_topi (hsb (hsin i 0 0)) hw_2 ?_
  refine lv_if_ne (tgt := 20) hx hb dX8_join_15 (by decide) (fun c_4 => ?_) (fun c_4 => ?_)
  · obtain rfl : i = 0 := hs_one (hs_nb c_4)
    refine lv_aload_n hx hb dX8_join_20 rfl (lv_at hl 0 rfl) ?_
    refine va_get (D := D) (ci := 7) (v := .ref mo_st) (C := RX8) (T := TX8) (N := 32) hx hb hts hiX8 hown hK hP 0 rfl rfl 0 (by decide) fl7 (fun _ h9 => h9) rfl dX8_join_21 ?_
    refine lv_iconst (v := 0) hx hb dX8_join_24 (by decide) ?_
    refine va_iald hx hb hK hP 1 0 rfl rfl (hs_in (by decide)) dX8_join_25 ?_
    refine hs_topi 2 (by first | rfl | decide +kernel) ?_
    refine lv_iconst (v := 2) hx hb dX8_join_26 (by decide) ?_
    refine lv_icmp_ne (tgt := 33) hx hb dX8_join_27 (by decide) (fun c_5 => absurd c_5 (by decide)) (fun c_5 => ?_)
    refine lv_bipush (v := (-2)) hx hb dX8_join_30 (by decide) ?_
    exact hs_iret hx hb hr hlocks hK hP hD hS () [] rfl (by decide) dX8_join_32 (by first | rfl | decide | (simp only [hsb_0, hsb_1] at c_4 c_5; simp [A_join, c_4, c_5]; done) | (simp [A_join, c_4, c_5]; done) | exact hsA_join_bad (hs_n0 c_4))
  · refine lv_iconst (v := (-1)) hx hb dX8_join_18 (by decide) ?_
    exact hs_iret hx hb hr hlocks hK hP hD hS () [] rfl (by decide) dX8_join_19 (by first | rfl | decide | (simp only [hsb_0, hsb_1] at c_4; simp [A_join, c_4]; done) | (simp [A_join, c_4]; done) | exact hsA_join_bad (hs_n0 c_4))

set_option maxHeartbeats 4000000 in
set_option maxRecDepth 100000 in
theorem q_teach (l : Launch) (D : va_G) (k : Nat → ClassId) (sz : Nat) (mo : Nat) (mo_st : Nat) (mo_at : Nat) (mo_isKept : Nat) (mo_draft : Nat) (mo_tape : Nat) (mo_row : Nat) (mo_before : Nat) (mo_lanes : Nat) (mo_sizes : Nat) (mo_cells : Nat) (mo_had : Nat) (i : Int32) (v : Int32)  : MI l yX8_teach wsX8_teach ({ frames := 2, cells := 0, slots := 0, locals := 46 }) D k [.ref mo, .int i, .int v] [(mo, .inr (7, [.ref mo_st, .ref mo_at, .ref mo_isKept, .int 0, .int 2, .ref mo_draft, .int 0, .int 2, .int 0, .int (-4), .ref mo_tape, .int 0, .int 0, .int 0, .int 0, .int 0, .int 0, .int 0, .ref mo_row, .int 0, .int 0, .int 0, .int 0, .ref mo_before, .long 0, .long 0, .long 0, .ref mo_lanes, .ref mo_sizes, .ref mo_cells, .int 0, .ref mo_had])), (mo_st, .inl (k 0, 132, .inl (hst)))] sz (fun (r : Int32) (u : Unit) => r = A_teach i v) (fun (u : Unit) => []) := by
  refine Met.ofW (cc := cX8_teach) (maxL := 3) (ret := (some .int)) (by decide) rfl ?_
  intro p e s m args below meth c s₁ B hml hv
  obtain ⟨rfl, hsz, hP, hK, hD0, hN⟩ := hv
  have hx := B.exec
  have hb := B.bytes
  have hr := B.returns
  have hlocks := B.notSynchronized
  have hts := atoms_spec (ws := wsX8_teach) B.pre
  have hown : s.vm.findClass RX8 = some m.cls := findClass_of_methodNamed B.named
  subst hsz
  have hD := hD0.self (sz := s.heap.size)
  generalize hAe : va_A [(mo, .inr (7, [.ref mo_st, .ref mo_at, .ref mo_isKept, .int 0, .int 2, .ref mo_draft, .int 0, .int 2, .int 0, .int (-4), .ref mo_tape, .int 0, .int 0, .int 0, .int 0, .int 0, .int 0, .int 0, .ref mo_row, .int 0, .int 0, .int 0, .int 0, .ref mo_before, .long 0, .long 0, .long 0, .ref mo_lanes, .ref mo_sizes, .ref mo_cells, .int 0, .ref mo_had])), (mo_st, .inl (k 0, 132, .inl (hst)))] s.heap.size = A at hD ⊢
  have hA : ∀ q : Nat, s.heap.size ≤ q → A q := fun q h => by rw [← hAe]; exact Or.inr h
  have hS : va_S A s.heap s.heap [] := va_S.rf
  have hl := lv_entry ([.ref mo, .int i, .int v]) (n := 3) (Nat.le_of_ble_eq_true rfl)
  rw [lg_entry_eq]
  generalize (lg_sl ([.ref mo, .int i, .int v]) ++ List.replicate (3 - (lg_sl ([.ref mo, .int i, .int v])).length) Slot.unset).toArray = ls at hl ⊢
  have hl : lv_has ls 3 [(0, .ref mo), (1, .int i), (2, .int v)] := hl
  have hP : va_P D vwCl [(mo, .inr (7, [.ref mo_st, .ref mo_at, .ref mo_isKept, .int 0, .int 2, .ref mo_draft, .int 0, .int 2, .int 0, .int (-4), .ref mo_tape, .int 0, .int 0, .int 0, .int 0, .int 0, .int 0, .int 0, .ref mo_row, .int 0, .int 0, .int 0, .int 0, .ref mo_before, .long 0, .long 0, .long 0, .ref mo_lanes, .ref mo_sizes, .ref mo_cells, .int 0, .ref mo_had])), (mo_st, .inl (k 0, 132, .inl (hst)))] s.heap := hP
  refine lv_aload_n hx hb dX8_teach_0 rfl (lv_at hl 0 rfl) ?_
  refine lv_iload_n hx hb dX8_teach_1 rfl (lv_at hl 1 rfl) ?_
  refine hs_ci (va_runV (As := [.int i]) (rest := []) ⟨hx, hb, hml, hown, hts⟩ (m_isPerson0 l D k _ mo mo_st mo_at mo_isKept mo_draft mo_tape mo_row mo_before mo_lanes mo_sizes mo_cells mo_had i) (cwV 1 hts gX8_teach_X8_isPerson rfl rfl rfl (by decide +kernel) ⟨Nat.le_of_ble_eq_true rfl, Nat.le_of_ble_eq_true rfl⟩) (hs_preV hK hN (hs_subP (w := [(mo, .inr (7, [.ref mo_st, .ref mo_at, .ref mo_isKept, .int 0, .int 2, .ref mo_draft, .int 0, .int 2, .int 0, .int (-4), .ref mo_tape, .int 0, .int 0, .int 0, .int 0, .int 0, .int 0, .int 0, .ref mo_row, .int 0, .int 0, .int 0, .int 0, .ref mo_before, .long 0, .long 0, .long 0, .ref mo_lanes, .ref mo_sizes, .ref mo_cells, .int 0, .ref mo_had])), (mo_st, .inl (k 0, 132, .inl (hst)))]) hP [0, 1] rfl) (hD.sub (ws' := [(mo, .inr (7, [.ref mo_st, .ref mo_at, .ref mo_isKept, .int 0, .int 2, .ref mo_draft, .int 0, .int 2, .int 0, .int (-4), .ref mo_tape, .int 0, .int 0, .int 0, .int 0, .int 0, .int 0, .int 0, .ref mo_row, .int 0, .int 0, .int 0, .int 0, .ref mo_before, .long 0, .long 0, .long 0, .ref mo_lanes, .ref mo_sizes, .ref mo_cells, .int 0, .ref mo_had])), (mo_st, .inl (k 0, 132, .inl (hst)))]) [0, 1] (by decide) rfl) (ci := 7) (q0 := 0) rfl rfl) rfl rfl hl.1 rfl (lv_room (Nat.le_of_ble_eq_true rfl)) dX8_teach_2 ⟨Nat.le_of_ble_eq_true rfl, Nat.le_of_ble_eq_true rfl⟩) hP hD hS hA [0, 1] [] [] rfl rfl (by decide) (by decide) [0, 1] (fun u_3 => [(mo, .inr (7, [.ref mo_st, .ref mo_at, .ref mo_isKept, .int 0, .int 2, .ref mo_draft, .int 0, .int 2, .int 0, .int (-4), .ref mo_tape, .int 0, .int 0, .int 0, .int 0, .int 0, .int 0, .int 0, .ref mo_row, .int 0, .int 0, .int 0, .int 0, .ref mo_before, .long 0, .long 0, .long 0, .ref mo_lanes, .ref mo_sizes, .ref mo_cells, .int 0, .ref mo_had])), (mo_st, .inl (k 0, 132, .inl (hst)))]) (fun _ => rfl) (by decide) (fun r_1 u_3 H locs hw_2 hP hD hS => ?_)
  have hP : va_P D vwCl [(mo, .inr (7, [.ref mo_st, .ref mo_at, .ref mo_isKept, .int 0, .int 2, .ref mo_draft, .int 0, .int 2, .int 0, .int (-4), .ref mo_tape, .int 0, .int 0, .int 0, .int 0, .int 0, .int 0, .int 0, .ref mo_row, .int 0, .int 0, .int 0, .int 0, .ref mo_before, .long 0, .long 0, .long 0, .ref mo_lanes, .ref mo_sizes, .ref mo_cells, .int 0, .ref mo_had])), (mo_st, .inl (k 0, 132, .inl (hst)))] H := hP
  have hD : va_D A [(mo, .inr (7, [.ref mo_st, .ref mo_at, .ref mo_isKept, .int 0, .int 2, .ref mo_draft, .int 0, .int 2, .int 0, .int (-4), .ref mo_tape, .int 0, .int 0, .int 0, .int 0, .int 0, .int 0, .int 0, .ref mo_row, .int 0, .int 0, .int 0, .int 0, .ref mo_before, .long 0, .long 0, .long 0, .ref mo_lanes, .ref mo_sizes, .ref mo_cells, .int 0, .ref mo_had])), (mo_st, .inl (k 0, 132, .inl (hst)))] := hD
  refine hs_topi 0 (hw_2.trans (by first | rfl | decide +kernel | rfl)) ?_
  refine lv_if_eq (tgt := 32) hx hb dX8_teach_5 (by decide) (fun c_4 => ?_) (fun c_4 => absurd c_4 (by decide))
  refine lv_iconst (v := (-1)) hx hb dX8_teach_32 (by decide) ?_
  exact hs_iret hx hb hr hlocks hK hP hD hS () [] rfl (by decide) dX8_teach_33 (by first | rfl | decide | (simp only [hsb_0, hsb_1] at c_4; simp [A_teach, c_4]; done) | (simp [A_teach, c_4]; done))

set_option maxHeartbeats 4000000 in
set_option maxRecDepth 100000 in
theorem q_set (l : Launch) (D : va_G) (k : Nat → ClassId) (sz : Nat) (mo : Nat) (mo_st : Nat) (mo_at : Nat) (mo_isKept : Nat) (mo_draft : Nat) (mo_tape : Nat) (mo_row : Nat) (mo_before : Nat) (mo_lanes : Nat) (mo_sizes : Nat) (mo_cells : Nat) (mo_had : Nat) (what : Int32) (v : Int32)  : MI l yX8_set wsX8_set ({ frames := 1, cells := 0, slots := 0, locals := 25 }) D k [.ref mo, .int what, .int v] [(mo, .inr (7, [.ref mo_st, .ref mo_at, .ref mo_isKept, .int 0, .int 2, .ref mo_draft, .int 0, .int 2, .int 0, .int (-4), .ref mo_tape, .int 0, .int 0, .int 0, .int 0, .int 0, .int 0, .int 0, .ref mo_row, .int 0, .int 0, .int 0, .int 0, .ref mo_before, .long 0, .long 0, .long 0, .ref mo_lanes, .ref mo_sizes, .ref mo_cells, .int 0, .ref mo_had])), (mo_st, .inl (k 0, 132, .inl (hst)))] sz (fun (r : Int32) (u : Unit) => r = A_set what v) (fun (u : Unit) => []) := by
  refine Met.ofW (cc := cX8_set) (maxL := 3) (ret := (some .int)) (by decide) rfl ?_
  intro p e s m args below meth c s₁ B hml hv
  obtain ⟨rfl, hsz, hP, hK, hD0, hN⟩ := hv
  have hx := B.exec
  have hb := B.bytes
  have hr := B.returns
  have hlocks := B.notSynchronized
  have hts := atoms_spec (ws := wsX8_set) B.pre
  have hown : s.vm.findClass RX8 = some m.cls := findClass_of_methodNamed B.named
  have kl197 := hts (.constantLong RX8 197 (2)) (by decide +kernel)
  have kl195 := hts (.constantLong RX8 195 (3)) (by decide +kernel)
  have kl190 := hts (.constantLong RX8 190 (9)) (by decide +kernel)
  have kl199 := hts (.constantLong RX8 199 (99)) (by decide +kernel)
  subst hsz
  have hD := hD0.self (sz := s.heap.size)
  generalize hAe : va_A [(mo, .inr (7, [.ref mo_st, .ref mo_at, .ref mo_isKept, .int 0, .int 2, .ref mo_draft, .int 0, .int 2, .int 0, .int (-4), .ref mo_tape, .int 0, .int 0, .int 0, .int 0, .int 0, .int 0, .int 0, .ref mo_row, .int 0, .int 0, .int 0, .int 0, .ref mo_before, .long 0, .long 0, .long 0, .ref mo_lanes, .ref mo_sizes, .ref mo_cells, .int 0, .ref mo_had])), (mo_st, .inl (k 0, 132, .inl (hst)))] s.heap.size = A at hD ⊢
  have hA : ∀ q : Nat, s.heap.size ≤ q → A q := fun q h => by rw [← hAe]; exact Or.inr h
  have hS : va_S A s.heap s.heap [] := va_S.rf
  have hl := lv_entry ([.ref mo, .int what, .int v]) (n := 3) (Nat.le_of_ble_eq_true rfl)
  rw [lg_entry_eq]
  generalize (lg_sl ([.ref mo, .int what, .int v]) ++ List.replicate (3 - (lg_sl ([.ref mo, .int what, .int v])).length) Slot.unset).toArray = ls at hl ⊢
  have hl : lv_has ls 3 [(0, .ref mo), (1, .int what), (2, .int v)] := hl
  have hP : va_P D vwCl [(mo, .inr (7, [.ref mo_st, .ref mo_at, .ref mo_isKept, .int 0, .int 2, .ref mo_draft, .int 0, .int 2, .int 0, .int (-4), .ref mo_tape, .int 0, .int 0, .int 0, .int 0, .int 0, .int 0, .int 0, .ref mo_row, .int 0, .int 0, .int 0, .int 0, .ref mo_before, .long 0, .long 0, .long 0, .ref mo_lanes, .ref mo_sizes, .ref mo_cells, .int 0, .ref mo_had])), (mo_st, .inl (k 0, 132, .inl (hst)))] s.heap := hP
  refine lv_iload_n hx hb dX8_set_0 rfl (lv_at hl 1 rfl) ?_
  refine lv_i2l hx hb dX8_set_1 rfl ?_
  refine lv_ldc2 hx hb hown kl197 dX8_set_2 ?_
  refine lv_ldc2 hx hb hown kl195 dX8_set_5 ?_
  refine hs_pi (va_runS (As := [.long (((what) : Int32).toInt64), .long 2, .long 3]) (rest := []) ⟨hx, hb, hml, hown, hts⟩ (m_in l D k _ what 2 3) (va_cwS 3 hts gX8_set_X8_in rfl rfl rfl (by decide +kernel) ⟨Nat.le_of_ble_eq_true rfl, Nat.le_of_ble_eq_true rfl⟩) (hs_preS hK hN (hs_subP (w := []) hP [] rfl) (hD.sub (ws' := []) [] (by decide) rfl)) rfl rfl hl.1 rfl (lv_room (Nat.le_of_ble_eq_true rfl)) dX8_set_8 ⟨Nat.le_of_ble_eq_true rfl, Nat.le_of_ble_eq_true rfl⟩) hP hD hS hA (fun r_1 u_3 H locs hw_2 hP hS => ?_)
  refine hs_topi (hsb (hsin what 2 3)) hw_2 ?_
  refine lv_if_eq (tgt := 51) hx hb dX8_set_11 (by decide) (fun c_4 => ?_) (fun c_4 => ?_)
  · refine lv_iconst (v := (-1)) hx hb dX8_set_51 (by decide) ?_
    exact hs_iret hx hb hr hlocks hK hP hD hS () [] rfl (by decide) dX8_set_52 (by first | rfl | decide | (simp only [hsb_0, hsb_1] at c_4; simp [A_set, c_4]; done) | (simp [A_set, c_4]; done) | (simp [A_set, hs_32, c_4]; done) | exact hsA_set_bad (hs_n0 c_4))
  · rcases hs_v23 (hs_nb c_4) with rfl | rfl
    · refine lv_iload_n hx hb dX8_set_14 rfl (lv_at hl 2 rfl) ?_
      refine lv_i2l hx hb dX8_set_15 rfl ?_
      refine lv_lconst (v := 0) hx hb dX8_set_16 (by decide) ?_
      refine lv_iload_n hx hb dX8_set_17 rfl (lv_at hl 1 rfl) ?_
      refine lv_iconst (v := 2) hx hb dX8_set_18 (by decide) ?_
      refine lv_icmp_ne (tgt := 28) hx hb dX8_set_19 (by decide) (fun c_5 => absurd c_5 (by decide)) (fun c_5 => ?_)
      refine lv_ldc2 hx hb hown kl190 dX8_set_22 ?_
      refine lv_goto (tgt := 31) hx hb dX8_set_25 (by decide) ?_
      refine hs_pi (va_runS (As := [.long (((v) : Int32).toInt64), .long 0, .long 9]) (rest := []) ⟨hx, hb, hml, hown, hts⟩ (m_in l D k _ v 0 9) (va_cwS 3 hts gX8_set_X8_in rfl rfl rfl (by decide +kernel) ⟨Nat.le_of_ble_eq_true rfl, Nat.le_of_ble_eq_true rfl⟩) (hs_preS hK hN (hs_subP (w := []) hP [] rfl) (hD.sub (ws' := []) [] (by decide) rfl)) rfl rfl hl.1 rfl (lv_room (Nat.le_of_ble_eq_true rfl)) dX8_set_31 ⟨Nat.le_of_ble_eq_true rfl, Nat.le_of_ble_eq_true rfl⟩) hP hD hS hA (fun r_6 u_8 H locs hw_7 hP hS => ?_)
      refine hs_topi (hsb (hsin v 0 9)) hw_7 ?_
      refine lv_if_eq (tgt := 51) hx hb dX8_set_34 (by decide) (fun c_9 => ?_) (fun c_9 => ?_)
      · refine lv_iconst (v := (-1)) hx hb dX8_set_51 (by decide) ?_
        exact hs_iret hx hb hr hlocks hK hP hD hS () [] rfl (by decide) dX8_set_52 (by first | rfl | decide | (simp only [hsb_0, hsb_1] at c_4 c_5 c_9; simp [A_set, c_4, c_5, c_9]; done) | (simp [A_set, c_4, c_5, c_9]; done) | (simp [A_set, hs_32, c_4, c_5, c_9]; done) | exact hsA_set_bad (hs_n0 c_4))
      · refine lv_aload_n hx hb dX8_set_37 rfl (lv_at hl 0 rfl) ?_
        refine lv_bipush (v := 13) hx hb dX8_set_38 (by decide) ?_
        refine lv_iload_n hx hb dX8_set_40 rfl (lv_at hl 1 rfl) ?_
        refine lv_iadd hx hb dX8_set_41 ?_
        refine hs_topi 15 (by first | rfl | decide +kernel) ?_
        refine lv_iconst (v := 2) hx hb dX8_set_42 (by decide) ?_
        refine lv_isub hx hb dX8_set_43 ?_
        refine hs_topi 13 (by first | rfl | decide +kernel) ?_
        refine lv_iload_n hx hb dX8_set_44 rfl (lv_at hl 2 rfl) ?_
        refine hs_ci (va_runV (As := [.int 13, .int v]) (rest := []) ⟨hx, hb, hml, hown, hts⟩ (m_becomes_st l D k _ mo mo_st mo_at mo_isKept mo_draft mo_tape mo_row mo_before mo_lanes mo_sizes mo_cells mo_had 13 v (hs_in (by decide))) (cwV 2 hts gX8_set_X8_becomes rfl rfl rfl (by decide +kernel) ⟨Nat.le_of_ble_eq_true rfl, Nat.le_of_ble_eq_true rfl⟩) (hs_preV hK hN (hs_subP (w := [(mo, .inr (7, [.ref mo_st, .ref mo_at, .ref mo_isKept, .int 0, .int 2, .ref mo_draft, .int 0, .int 2, .int 0, .int (-4), .ref mo_tape, .int 0, .int 0, .int 0, .int 0, .int 0, .int 0, .int 0, .ref mo_row, .int 0, .int 0, .int 0, .int 0, .ref mo_before, .long 0, .long 0, .long 0, .ref mo_lanes, .ref mo_sizes, .ref mo_cells, .int 0, .ref mo_had])), (mo_st, .inl (k 0, 132, .inl (hst)))]) hP [0, 1] rfl) (hD.sub (ws' := [(mo, .inr (7, [.ref mo_st, .ref mo_at, .ref mo_isKept, .int 0, .int 2, .ref mo_draft, .int 0, .int 2, .int 0, .int (-4), .ref mo_tape, .int 0, .int 0, .int 0, .int 0, .int 0, .int 0, .int 0, .ref mo_row, .int 0, .int 0, .int 0, .int 0, .ref mo_before, .long 0, .long 0, .long 0, .ref mo_lanes, .ref mo_sizes, .ref mo_cells, .int 0, .ref mo_had])), (mo_st, .inl (k 0, 132, .inl (hst)))]) [0, 1] (by decide) rfl) (ci := 7) (q0 := 0) rfl rfl) rfl rfl hl.1 rfl (lv_room (Nat.le_of_ble_eq_true rfl)) dX8_set_45 ⟨Nat.le_of_ble_eq_true rfl, Nat.le_of_ble_eq_true rfl⟩) hP hD hS hA [0, 1] [] [] rfl rfl (by decide) (by decide) [] (fun u_12 => []) (fun _ => rfl) (by decide) (fun r_10 u_12 H locs hw_11 hP hD hS => ?_)
        have hP : va_P D vwCl [] H := hP
        have hD : va_D A [] := hD
        refine hs_topi 0 (hw_11.trans (by first | rfl | decide +kernel | rfl)) ?_
        refine lv_goto (tgt := 52) hx hb dX8_set_48 (by decide) ?_
        exact hs_iret hx hb hr hlocks hK hP hD hS () [] rfl (by decide) dX8_set_52 (by first | rfl | decide | (simp only [hsb_0, hsb_1] at c_4 c_5 c_9; simp [A_set, c_4, c_5, c_9]; done) | (simp [A_set, c_4, c_5, c_9]; done) | (simp [A_set, hs_32, c_4, c_5, c_9]; done) | exact hsA_set_bad (hs_n0 c_4))
    · refine lv_iload_n hx hb dX8_set_14 rfl (lv_at hl 2 rfl) ?_
      refine lv_i2l hx hb dX8_set_15 rfl ?_
      refine lv_lconst (v := 0) hx hb dX8_set_16 (by decide) ?_
      refine lv_iload_n hx hb dX8_set_17 rfl (lv_at hl 1 rfl) ?_
      refine lv_iconst (v := 2) hx hb dX8_set_18 (by decide) ?_
      refine lv_icmp_ne (tgt := 28) hx hb dX8_set_19 (by decide) (fun c_13 => ?_) (fun c_13 => absurd c_13 (by decide))
      refine lv_ldc2 hx hb hown kl199 dX8_set_28 ?_
      refine hs_pi (va_runS (As := [.long (((v) : Int32).toInt64), .long 0, .long 99]) (rest := []) ⟨hx, hb, hml, hown, hts⟩ (m_in l D k _ v 0 99) (va_cwS 3 hts gX8_set_X8_in rfl rfl rfl (by decide +kernel) ⟨Nat.le_of_ble_eq_true rfl, Nat.le_of_ble_eq_true rfl⟩) (hs_preS hK hN (hs_subP (w := []) hP [] rfl) (hD.sub (ws' := []) [] (by decide) rfl)) rfl rfl hl.1 rfl (lv_room (Nat.le_of_ble_eq_true rfl)) dX8_set_31 ⟨Nat.le_of_ble_eq_true rfl, Nat.le_of_ble_eq_true rfl⟩) hP hD hS hA (fun r_14 u_16 H locs hw_15 hP hS => ?_)
      refine hs_topi (hsb (hsin v 0 99)) hw_15 ?_
      refine lv_if_eq (tgt := 51) hx hb dX8_set_34 (by decide) (fun c_17 => ?_) (fun c_17 => ?_)
      · refine lv_iconst (v := (-1)) hx hb dX8_set_51 (by decide) ?_
        exact hs_iret hx hb hr hlocks hK hP hD hS () [] rfl (by decide) dX8_set_52 (by first | rfl | decide | (simp only [hsb_0, hsb_1] at c_4 c_13 c_17; simp [A_set, c_4, c_13, c_17]; done) | (simp [A_set, c_4, c_13, c_17]; done) | (simp [A_set, hs_32, c_4, c_13, c_17]; done) | exact hsA_set_bad (hs_n0 c_4))
      · refine lv_aload_n hx hb dX8_set_37 rfl (lv_at hl 0 rfl) ?_
        refine lv_bipush (v := 13) hx hb dX8_set_38 (by decide) ?_
        refine lv_iload_n hx hb dX8_set_40 rfl (lv_at hl 1 rfl) ?_
        refine lv_iadd hx hb dX8_set_41 ?_
        refine hs_topi 16 (by first | rfl | decide +kernel) ?_
        refine lv_iconst (v := 2) hx hb dX8_set_42 (by decide) ?_
        refine lv_isub hx hb dX8_set_43 ?_
        refine hs_topi 14 (by first | rfl | decide +kernel) ?_
        refine lv_iload_n hx hb dX8_set_44 rfl (lv_at hl 2 rfl) ?_
        refine hs_ci (va_runV (As := [.int 14, .int v]) (rest := []) ⟨hx, hb, hml, hown, hts⟩ (m_becomes_st l D k _ mo mo_st mo_at mo_isKept mo_draft mo_tape mo_row mo_before mo_lanes mo_sizes mo_cells mo_had 14 v (hs_in (by decide))) (cwV 2 hts gX8_set_X8_becomes rfl rfl rfl (by decide +kernel) ⟨Nat.le_of_ble_eq_true rfl, Nat.le_of_ble_eq_true rfl⟩) (hs_preV hK hN (hs_subP (w := [(mo, .inr (7, [.ref mo_st, .ref mo_at, .ref mo_isKept, .int 0, .int 2, .ref mo_draft, .int 0, .int 2, .int 0, .int (-4), .ref mo_tape, .int 0, .int 0, .int 0, .int 0, .int 0, .int 0, .int 0, .ref mo_row, .int 0, .int 0, .int 0, .int 0, .ref mo_before, .long 0, .long 0, .long 0, .ref mo_lanes, .ref mo_sizes, .ref mo_cells, .int 0, .ref mo_had])), (mo_st, .inl (k 0, 132, .inl (hst)))]) hP [0, 1] rfl) (hD.sub (ws' := [(mo, .inr (7, [.ref mo_st, .ref mo_at, .ref mo_isKept, .int 0, .int 2, .ref mo_draft, .int 0, .int 2, .int 0, .int (-4), .ref mo_tape, .int 0, .int 0, .int 0, .int 0, .int 0, .int 0, .int 0, .ref mo_row, .int 0, .int 0, .int 0, .int 0, .ref mo_before, .long 0, .long 0, .long 0, .ref mo_lanes, .ref mo_sizes, .ref mo_cells, .int 0, .ref mo_had])), (mo_st, .inl (k 0, 132, .inl (hst)))]) [0, 1] (by decide) rfl) (ci := 7) (q0 := 0) rfl rfl) rfl rfl hl.1 rfl (lv_room (Nat.le_of_ble_eq_true rfl)) dX8_set_45 ⟨Nat.le_of_ble_eq_true rfl, Nat.le_of_ble_eq_true rfl⟩) hP hD hS hA [0, 1] [] [] rfl rfl (by decide) (by decide) [] (fun u_20 => []) (fun _ => rfl) (by decide) (fun r_18 u_20 H locs hw_19 hP hD hS => ?_)
        have hP : va_P D vwCl [] H := hP
        have hD : va_D A [] := hD
        refine hs_topi 0 (hw_19.trans (by first | rfl | decide +kernel | rfl)) ?_
        refine lv_goto (tgt := 52) hx hb dX8_set_48 (by decide) ?_
        exact hs_iret hx hb hr hlocks hK hP hD hS () [] rfl (by decide) dX8_set_52 (by first | rfl | decide | (simp only [hsb_0, hsb_1] at c_4 c_13 c_17; simp [A_set, c_4, c_13, c_17]; done) | (simp [A_set, c_4, c_13, c_17]; done) | (simp [A_set, hs_32, c_4, c_13, c_17]; done) | exact hsA_set_bad (hs_n0 c_4))

set_option maxHeartbeats 4000000 in
set_option maxRecDepth 100000 in
theorem q_appeal (l : Launch) (D : va_G) (k : Nat → ClassId) (sz : Nat) (mo : Nat) (mo_st : Nat) (mo_at : Nat) (mo_isKept : Nat) (mo_draft : Nat) (mo_tape : Nat) (mo_row : Nat) (mo_before : Nat) (mo_lanes : Nat) (mo_sizes : Nat) (mo_cells : Nat) (mo_had : Nat)  : MI l yX8_appeal wsX8_appeal ({ frames := 0, cells := 0, slots := 0, locals := 0 }) D k [.ref mo] [(mo, .inr (7, [.ref mo_st, .ref mo_at, .ref mo_isKept, .int 0, .int 2, .ref mo_draft, .int 0, .int 2, .int 0, .int (-4), .ref mo_tape, .int 0, .int 0, .int 0, .int 0, .int 0, .int 0, .int 0, .ref mo_row, .int 0, .int 0, .int 0, .int 0, .ref mo_before, .long 0, .long 0, .long 0, .ref mo_lanes, .ref mo_sizes, .ref mo_cells, .int 0, .ref mo_had])), (mo_st, .inl (k 0, 132, .inl (hst)))] sz (fun (r : Int32) (u : Unit) => r = A_appeal) (fun (u : Unit) => []) := by
  refine Met.ofW (cc := cX8_appeal) (maxL := 1) (ret := (some .int)) (by decide) rfl ?_
  intro p e s m args below meth c s₁ B hml hv
  obtain ⟨rfl, hsz, hP, hK, hD0, hN⟩ := hv
  have hx := B.exec
  have hb := B.bytes
  have hr := B.returns
  have hlocks := B.notSynchronized
  have hts := atoms_spec (ws := wsX8_appeal) B.pre
  have hown : s.vm.findClass RX8 = some m.cls := findClass_of_methodNamed B.named
  have hiX8 : ∀ w ∈ u_ws RX8 TX8 32, w ∈ wsX8_appeal := by decide +kernel
  have fl7 := hts (.fieldLink RX8 7 "HalfScalesModel" "st" "[I") (by decide +kernel)
  subst hsz
  have hD := hD0.self (sz := s.heap.size)
  generalize hAe : va_A [(mo, .inr (7, [.ref mo_st, .ref mo_at, .ref mo_isKept, .int 0, .int 2, .ref mo_draft, .int 0, .int 2, .int 0, .int (-4), .ref mo_tape, .int 0, .int 0, .int 0, .int 0, .int 0, .int 0, .int 0, .ref mo_row, .int 0, .int 0, .int 0, .int 0, .ref mo_before, .long 0, .long 0, .long 0, .ref mo_lanes, .ref mo_sizes, .ref mo_cells, .int 0, .ref mo_had])), (mo_st, .inl (k 0, 132, .inl (hst)))] s.heap.size = A at hD ⊢
  have hA : ∀ q : Nat, s.heap.size ≤ q → A q := fun q h => by rw [← hAe]; exact Or.inr h
  have hS : va_S A s.heap s.heap [] := va_S.rf
  have hl := lv_entry ([.ref mo]) (n := 1) (Nat.le_of_ble_eq_true rfl)
  rw [lg_entry_eq]
  generalize (lg_sl ([.ref mo]) ++ List.replicate (1 - (lg_sl ([.ref mo])).length) Slot.unset).toArray = ls at hl ⊢
  have hl : lv_has ls 1 [(0, .ref mo)] := hl
  have hP : va_P D vwCl [(mo, .inr (7, [.ref mo_st, .ref mo_at, .ref mo_isKept, .int 0, .int 2, .ref mo_draft, .int 0, .int 2, .int 0, .int (-4), .ref mo_tape, .int 0, .int 0, .int 0, .int 0, .int 0, .int 0, .int 0, .ref mo_row, .int 0, .int 0, .int 0, .int 0, .ref mo_before, .long 0, .long 0, .long 0, .ref mo_lanes, .ref mo_sizes, .ref mo_cells, .int 0, .ref mo_had])), (mo_st, .inl (k 0, 132, .inl (hst)))] s.heap := hP
  refine lv_aload_n hx hb dX8_appeal_0 rfl (lv_at hl 0 rfl) ?_
  refine va_get (D := D) (ci := 7) (v := .ref mo_st) (C := RX8) (T := TX8) (N := 32) hx hb hts hiX8 hown hK hP 0 rfl rfl 0 (by decide) fl7 (fun _ h9 => h9) rfl dX8_appeal_1 ?_
  refine lv_bipush (v := 14) hx hb dX8_appeal_4 (by decide) ?_
  refine va_iald hx hb hK hP 1 0 rfl rfl (hs_in (by decide)) dX8_appeal_6 ?_
  refine hs_topi 0 (by first | rfl | decide +kernel) ?_
  refine lv_iconst (v := 2) hx hb dX8_appeal_7 (by decide) ?_
  refine lv_icmp_ge (tgt := 14) hx hb dX8_appeal_8 (by decide) (fun c_1 => absurd c_1 (by decide)) (fun c_1 => ?_)
  refine lv_bipush (v := (-2)) hx hb dX8_appeal_11 (by decide) ?_
  exact hs_iret hx hb hr hlocks hK hP hD hS () [] rfl (by decide) dX8_appeal_13 (by first | rfl | decide | (simp only [hsb_0, hsb_1] at c_1; simp [A_appeal, c_1]; done) | (simp [A_appeal, c_1]; done))

set_option maxHeartbeats 4000000 in
set_option maxRecDepth 100000 in
theorem q_lighter (l : Launch) (D : va_G) (k : Nat → ClassId) (sz : Nat) (mo : Nat) (mo_st : Nat) (mo_at : Nat) (mo_isKept : Nat) (mo_draft : Nat) (mo_tape : Nat) (mo_row : Nat) (mo_before : Nat) (mo_lanes : Nat) (mo_sizes : Nat) (mo_cells : Nat) (mo_had : Nat) (a : Int32) (b : Int32)  : MI l yX8_lighter wsX8_lighter ({ frames := 2, cells := 0, slots := 0, locals := 49 }) D k [.ref mo, .int a, .int b] [(mo, .inr (7, [.ref mo_st, .ref mo_at, .ref mo_isKept, .int 0, .int 2, .ref mo_draft, .int 0, .int 2, .int 0, .int (-4), .ref mo_tape, .int 0, .int 0, .int 0, .int 0, .int 0, .int 0, .int 0, .ref mo_row, .int 0, .int 0, .int 0, .int 0, .ref mo_before, .long 0, .long 0, .long 0, .ref mo_lanes, .ref mo_sizes, .ref mo_cells, .int 0, .ref mo_had])), (mo_st, .inl (k 0, 132, .inl (hst))), (mo_at, .inl (k 0, 44, .inl (hsz))), (mo_row, .inl (k 0, 5, .inl (hsz))), (mo_before, .inl (k 0, 25, .inl (hsz)))] sz (fun (r : Int32) (u : Unit) => r = A_lighter a b) (fun (u : Unit) => []) := by
  refine Met.ofW (cc := cX8_lighter) (maxL := 3) (ret := (some .int)) (by decide) rfl ?_
  intro p e s m args below meth c s₁ B hml hv
  obtain ⟨rfl, hsz, hP, hK, hD0, hN⟩ := hv
  have hx := B.exec
  have hb := B.bytes
  have hr := B.returns
  have hlocks := B.notSynchronized
  have hts := atoms_spec (ws := wsX8_lighter) B.pre
  have hown : s.vm.findClass RX8 = some m.cls := findClass_of_methodNamed B.named
  have hiX8 : ∀ w ∈ u_ws RX8 TX8 32, w ∈ wsX8_lighter := by decide +kernel
  have fl66 := hts (.fieldLink RX8 66 "HalfScalesModel" "halfMany" "I") (by decide +kernel)
  have fl7 := hts (.fieldLink RX8 7 "HalfScalesModel" "st" "[I") (by decide +kernel)
  have fl29 := hts (.fieldLink RX8 29 "HalfScalesModel" "before" "[I") (by decide +kernel)
  subst hsz
  have hD := hD0.self (sz := s.heap.size)
  generalize hAe : va_A [(mo, .inr (7, [.ref mo_st, .ref mo_at, .ref mo_isKept, .int 0, .int 2, .ref mo_draft, .int 0, .int 2, .int 0, .int (-4), .ref mo_tape, .int 0, .int 0, .int 0, .int 0, .int 0, .int 0, .int 0, .ref mo_row, .int 0, .int 0, .int 0, .int 0, .ref mo_before, .long 0, .long 0, .long 0, .ref mo_lanes, .ref mo_sizes, .ref mo_cells, .int 0, .ref mo_had])), (mo_st, .inl (k 0, 132, .inl (hst))), (mo_at, .inl (k 0, 44, .inl (hsz))), (mo_row, .inl (k 0, 5, .inl (hsz))), (mo_before, .inl (k 0, 25, .inl (hsz)))] s.heap.size = A at hD ⊢
  have hA : ∀ q : Nat, s.heap.size ≤ q → A q := fun q h => by rw [← hAe]; exact Or.inr h
  have hS : va_S A s.heap s.heap [] := va_S.rf
  have hl := lv_entry ([.ref mo, .int a, .int b]) (n := 3) (Nat.le_of_ble_eq_true rfl)
  rw [lg_entry_eq]
  generalize (lg_sl ([.ref mo, .int a, .int b]) ++ List.replicate (3 - (lg_sl ([.ref mo, .int a, .int b])).length) Slot.unset).toArray = ls at hl ⊢
  have hl : lv_has ls 3 [(0, .ref mo), (1, .int a), (2, .int b)] := hl
  have hP : va_P D vwCl [(mo, .inr (7, [.ref mo_st, .ref mo_at, .ref mo_isKept, .int 0, .int 2, .ref mo_draft, .int 0, .int 2, .int 0, .int (-4), .ref mo_tape, .int 0, .int 0, .int 0, .int 0, .int 0, .int 0, .int 0, .ref mo_row, .int 0, .int 0, .int 0, .int 0, .ref mo_before, .long 0, .long 0, .long 0, .ref mo_lanes, .ref mo_sizes, .ref mo_cells, .int 0, .ref mo_had])), (mo_st, .inl (k 0, 132, .inl (hst))), (mo_at, .inl (k 0, 44, .inl (hsz))), (mo_row, .inl (k 0, 5, .inl (hsz))), (mo_before, .inl (k 0, 25, .inl (hsz)))] s.heap := hP
  refine lv_iload_n hx hb dX8_lighter_0 rfl (lv_at hl 1 rfl) ?_
  refine lv_i2l hx hb dX8_lighter_1 rfl ?_
  refine lv_lconst (v := 0) hx hb dX8_lighter_2 (by decide) ?_
  refine lv_aload_n hx hb dX8_lighter_3 rfl (lv_at hl 0 rfl) ?_
  refine va_get (D := D) (ci := 7) (v := .int 2) (C := RX8) (T := TX8) (N := 32) hx hb hts hiX8 hown hK hP 0 rfl rfl 4 (by decide) fl66 (fun _ h9 => h9) rfl dX8_lighter_4 ?_
  refine lv_iconst (v := 1) hx hb dX8_lighter_7 (by decide) ?_
  refine lv_isub hx hb dX8_lighter_8 ?_
  refine hs_topi 1 (by first | rfl | decide +kernel) ?_
  refine lv_i2l (v := 1) hx hb dX8_lighter_9 (by decide +kernel) ?_
  refine hs_pi (va_runS (As := [.long (((a) : Int32).toInt64), .long 0, .long 1]) (rest := []) ⟨hx, hb, hml, hown, hts⟩ (m_in l D k _ a 0 1) (va_cwS 3 hts gX8_lighter_X8_in rfl rfl rfl (by decide +kernel) ⟨Nat.le_of_ble_eq_true rfl, Nat.le_of_ble_eq_true rfl⟩) (hs_preS hK hN (hs_subP (w := []) hP [] rfl) (hD.sub (ws' := []) [] (by decide) rfl)) rfl rfl hl.1 rfl (lv_room (Nat.le_of_ble_eq_true rfl)) dX8_lighter_10 ⟨Nat.le_of_ble_eq_true rfl, Nat.le_of_ble_eq_true rfl⟩) hP hD hS hA (fun r_1 u_3 H locs hw_2 hP hS => ?_)
  refine hs_topi (hsb (hsin a 0 1)) hw_2 ?_
  refine lv_if_eq (tgt := 37) hx hb dX8_lighter_13 (by decide) (fun c_4 => ?_) (fun c_4 => ?_)
  · refine lv_iconst (v := (-1)) hx hb dX8_lighter_37 (by decide) ?_
    exact hs_iret hx hb hr hlocks hK hP hD hS () [] rfl (by decide) dX8_lighter_38 (by first | rfl | decide | (simp only [hsb_0, hsb_1] at c_4; simp [A_lighter, c_4]; done) | (simp [A_lighter, c_4]; done))
  · rcases hs_v01 (hs_nb c_4) with rfl | rfl
    · refine lv_iload_n hx hb dX8_lighter_16 rfl (lv_at hl 2 rfl) ?_
      refine lv_i2l hx hb dX8_lighter_17 rfl ?_
      refine lv_lconst (v := 0) hx hb dX8_lighter_18 (by decide) ?_
      refine lv_aload_n hx hb dX8_lighter_19 rfl (lv_at hl 0 rfl) ?_
      refine va_get (D := D) (ci := 7) (v := .int 2) (C := RX8) (T := TX8) (N := 32) hx hb hts hiX8 hown hK hP 0 rfl rfl 4 (by decide) fl66 (fun _ h9 => h9) rfl dX8_lighter_20 ?_
      refine lv_iconst (v := 1) hx hb dX8_lighter_23 (by decide) ?_
      refine lv_isub hx hb dX8_lighter_24 ?_
      refine hs_topi 1 (by first | rfl | decide +kernel) ?_
      refine lv_i2l (v := 1) hx hb dX8_lighter_25 (by decide +kernel) ?_
      refine hs_pi (va_runS (As := [.long (((b) : Int32).toInt64), .long 0, .long 1]) (rest := []) ⟨hx, hb, hml, hown, hts⟩ (m_in l D k _ b 0 1) (va_cwS 3 hts gX8_lighter_X8_in rfl rfl rfl (by decide +kernel) ⟨Nat.le_of_ble_eq_true rfl, Nat.le_of_ble_eq_true rfl⟩) (hs_preS hK hN (hs_subP (w := []) hP [] rfl) (hD.sub (ws' := []) [] (by decide) rfl)) rfl rfl hl.1 rfl (lv_room (Nat.le_of_ble_eq_true rfl)) dX8_lighter_26 ⟨Nat.le_of_ble_eq_true rfl, Nat.le_of_ble_eq_true rfl⟩) hP hD hS hA (fun r_5 u_7 H locs hw_6 hP hS => ?_)
      refine hs_topi (hsb (hsin b 0 1)) hw_6 ?_
      refine lv_if_eq (tgt := 37) hx hb dX8_lighter_29 (by decide) (fun c_8 => ?_) (fun c_8 => ?_)
      · refine lv_iconst (v := (-1)) hx hb dX8_lighter_37 (by decide) ?_
        exact hs_iret hx hb hr hlocks hK hP hD hS () [] rfl (by decide) dX8_lighter_38 (by first | rfl | decide | (simp only [hsb_0, hsb_1] at c_4 c_8; simp [A_lighter, c_4, c_8]; done) | (simp [A_lighter, c_4, c_8]; done))
      · rcases hs_v01 (hs_nb c_8) with rfl | rfl
        · refine lv_iload_n hx hb dX8_lighter_32 rfl (lv_at hl 1 rfl) ?_
          refine lv_iload_n hx hb dX8_lighter_33 rfl (lv_at hl 2 rfl) ?_
          refine lv_icmp_ne (tgt := 39) hx hb dX8_lighter_34 (by decide) (fun c_9 => absurd c_9 (by decide)) (fun c_9 => ?_)
          refine lv_iconst (v := (-1)) hx hb dX8_lighter_37 (by decide) ?_
          exact hs_iret hx hb hr hlocks hK hP hD hS () [] rfl (by decide) dX8_lighter_38 (by first | rfl | decide | (simp only [hsb_0, hsb_1] at c_4 c_8 c_9; simp [A_lighter, c_4, c_8, c_9]; done) | (simp [A_lighter, c_4, c_8, c_9]; done))
        · refine lv_iload_n hx hb dX8_lighter_32 rfl (lv_at hl 1 rfl) ?_
          refine lv_iload_n hx hb dX8_lighter_33 rfl (lv_at hl 2 rfl) ?_
          refine lv_icmp_ne (tgt := 39) hx hb dX8_lighter_34 (by decide) (fun c_10 => ?_) (fun c_10 => absurd c_10 (by decide))
          refine lv_aload_n hx hb dX8_lighter_39 rfl (lv_at hl 0 rfl) ?_
          refine va_get (D := D) (ci := 7) (v := .ref mo_st) (C := RX8) (T := TX8) (N := 32) hx hb hts hiX8 hown hK hP 0 rfl rfl 0 (by decide) fl7 (fun _ h9 => h9) rfl dX8_lighter_40 ?_
          refine lv_bipush (v := 16) hx hb dX8_lighter_43 (by decide) ?_
          refine va_iald hx hb hK hP 1 0 rfl rfl (hs_in (by decide)) dX8_lighter_45 ?_
          refine hs_topi 0 (by first | rfl | decide +kernel) ?_
          refine lv_bipush (v := 8) hx hb dX8_lighter_46 (by decide) ?_
          refine lv_icmp_ne (tgt := 54) hx hb dX8_lighter_48 (by decide) (fun c_11 => ?_) (fun c_11 => absurd c_11 (by decide))
          refine lv_aload_n hx hb dX8_lighter_54 rfl (lv_at hl 0 rfl) ?_
          refine hs_cv (va_runV (As := []) (rest := []) ⟨hx, hb, hml, hown, hts⟩ (m_starts l D k _ mo mo_st mo_at mo_isKept 0 2 mo_draft 0 2 0 (-4) mo_tape 0 0 0 0 0 0 0 mo_row 0 0 0 0 mo_before 0 0 0 mo_lanes mo_sizes mo_cells 0 mo_had) (cwV 0 hts gX8_lighter_X8_starts rfl rfl rfl (by decide +kernel) ⟨Nat.le_of_ble_eq_true rfl, Nat.le_of_ble_eq_true rfl⟩) (hs_preV hK hN (hs_subP (w := [(mo, .inr (7, [.ref mo_st, .ref mo_at, .ref mo_isKept, .int 0, .int 2, .ref mo_draft, .int 0, .int 2, .int 0, .int (-4), .ref mo_tape, .int 0, .int 0, .int 0, .int 0, .int 0, .int 0, .int 0, .ref mo_row, .int 0, .int 0, .int 0, .int 0, .ref mo_before, .long 0, .long 0, .long 0, .ref mo_lanes, .ref mo_sizes, .ref mo_cells, .int 0, .ref mo_had])), (mo_st, .inl (k 0, 132, .inl (hst))), (mo_at, .inl (k 0, 44, .inl (hsz)))]) hP [0, 1, 2] rfl) (hD.sub (ws' := [(mo, .inr (7, [.ref mo_st, .ref mo_at, .ref mo_isKept, .int 0, .int 2, .ref mo_draft, .int 0, .int 2, .int 0, .int (-4), .ref mo_tape, .int 0, .int 0, .int 0, .int 0, .int 0, .int 0, .int 0, .ref mo_row, .int 0, .int 0, .int 0, .int 0, .ref mo_before, .long 0, .long 0, .long 0, .ref mo_lanes, .ref mo_sizes, .ref mo_cells, .int 0, .ref mo_had])), (mo_st, .inl (k 0, 132, .inl (hst))), (mo_at, .inl (k 0, 44, .inl (hsz)))]) [0, 1, 2] (by decide) rfl) (ci := 7) (q0 := 0) rfl rfl) rfl rfl hl.1 rfl (lv_room (Nat.le_of_ble_eq_true rfl)) dX8_lighter_55 ⟨Nat.le_of_ble_eq_true rfl, Nat.le_of_ble_eq_true rfl⟩) hP hD hS hA [0, 1, 2] [3, 4] [(mo_row, .inl (k 0, 5, .inl (hsz))), (mo_before, .inl (k 0, 25, .inl (hsz)))] rfl rfl (by decide) (by decide) [2, 3, 4, 0, 1] (fun u_14 => [(mo, .inr (7, [.ref mo_st, .ref mo_at, .ref mo_isKept, .int 0, .int 2, .ref mo_draft, .int 0, .int 2, .int 0, .int (-4), .ref mo_tape, .int 0, .int 0, .int 0, .int 0, .int 0, .int 0, .int 0, .ref mo_row, .int 0, .int 0, .int 0, .int 0, .ref mo_before, .long 0, .long 0, .long 0, .ref mo_lanes, .ref mo_sizes, .ref mo_cells, .int 0, .ref mo_had])), (mo_st, .inl (k 0, 132, .inl (hst))), (mo_at, .inl (k 0, 44, .inl (hst))), (mo_row, .inl (k 0, 5, .inl (hsz))), (mo_before, .inl (k 0, 25, .inl (hsz)))]) (fun _ => rfl) (by decide) (fun u_14 H locs hw_13 hP hD hS => ?_)
          have hP : va_P D vwCl [(mo, .inr (7, [.ref mo_st, .ref mo_at, .ref mo_isKept, .int 0, .int 2, .ref mo_draft, .int 0, .int 2, .int 0, .int (-4), .ref mo_tape, .int 0, .int 0, .int 0, .int 0, .int 0, .int 0, .int 0, .ref mo_row, .int 0, .int 0, .int 0, .int 0, .ref mo_before, .long 0, .long 0, .long 0, .ref mo_lanes, .ref mo_sizes, .ref mo_cells, .int 0, .ref mo_had])), (mo_st, .inl (k 0, 132, .inl (hst))), (mo_at, .inl (k 0, 44, .inl (hst))), (mo_row, .inl (k 0, 5, .inl (hsz))), (mo_before, .inl (k 0, 25, .inl (hsz)))] H := hP
          have hD : va_D A [(mo, .inr (7, [.ref mo_st, .ref mo_at, .ref mo_isKept, .int 0, .int 2, .ref mo_draft, .int 0, .int 2, .int 0, .int (-4), .ref mo_tape, .int 0, .int 0, .int 0, .int 0, .int 0, .int 0, .int 0, .ref mo_row, .int 0, .int 0, .int 0, .int 0, .ref mo_before, .long 0, .long 0, .long 0, .ref mo_lanes, .ref mo_sizes, .ref mo_cells, .int 0, .ref mo_had])), (mo_st, .inl (k 0, 132, .inl (hst))), (mo_at, .inl (k 0, 44, .inl (hst))), (mo_row, .inl (k 0, 5, .inl (hsz))), (mo_before, .inl (k 0, 25, .inl (hsz)))] := hD
          refine lv_aload_n hx hb dX8_lighter_58 rfl (lv_at hl 0 rfl) ?_
          refine lv_aload_n hx hb dX8_lighter_59 rfl (lv_at hl 0 rfl) ?_
          refine va_get (D := D) (ci := 7) (v := .int 2) (C := RX8) (T := TX8) (N := 32) hx hb hts hiX8 hown hK hP 0 rfl rfl 4 (by decide) fl66 (fun _ h9 => h9) rfl dX8_lighter_60 ?_
          refine hs_cv (va_runV (As := [.int 2]) (rest := []) ⟨hx, hb, hml, hown, hts⟩ (m_findOrders0 l D k _ mo mo_st mo_at mo_isKept 0 2 mo_draft 0 2 0 (-4) mo_tape 0 0 0 0 0 0 0 mo_row 0 0 0 0 mo_before 0 0 0 mo_lanes mo_sizes mo_cells 0 mo_had) (cwV 1 hts gX8_lighter_X8_findOrders rfl rfl rfl (by decide +kernel) ⟨Nat.le_of_ble_eq_true rfl, Nat.le_of_ble_eq_true rfl⟩) (hs_preV hK hN (hs_subP (w := [(mo, .inr (7, [.ref mo_st, .ref mo_at, .ref mo_isKept, .int 0, .int 2, .ref mo_draft, .int 0, .int 2, .int 0, .int (-4), .ref mo_tape, .int 0, .int 0, .int 0, .int 0, .int 0, .int 0, .int 0, .ref mo_row, .int 0, .int 0, .int 0, .int 0, .ref mo_before, .long 0, .long 0, .long 0, .ref mo_lanes, .ref mo_sizes, .ref mo_cells, .int 0, .ref mo_had])), (mo_at, .inl (k 0, 44, .inl (hst))), (mo_row, .inl (k 0, 5, .inl (hsz))), (mo_before, .inl (k 0, 25, .inl (hsz)))]) hP [0, 2, 3, 4] rfl) (hD.sub (ws' := [(mo, .inr (7, [.ref mo_st, .ref mo_at, .ref mo_isKept, .int 0, .int 2, .ref mo_draft, .int 0, .int 2, .int 0, .int (-4), .ref mo_tape, .int 0, .int 0, .int 0, .int 0, .int 0, .int 0, .int 0, .ref mo_row, .int 0, .int 0, .int 0, .int 0, .ref mo_before, .long 0, .long 0, .long 0, .ref mo_lanes, .ref mo_sizes, .ref mo_cells, .int 0, .ref mo_had])), (mo_at, .inl (k 0, 44, .inl (hst))), (mo_row, .inl (k 0, 5, .inl (hsz))), (mo_before, .inl (k 0, 25, .inl (hsz)))]) [0, 2, 3, 4] (by decide) rfl) (ci := 7) (q0 := 0) rfl rfl) rfl rfl hl.1 rfl (lv_room (Nat.le_of_ble_eq_true rfl)) dX8_lighter_63 ⟨Nat.le_of_ble_eq_true rfl, Nat.le_of_ble_eq_true rfl⟩) hP hD hS hA [0, 2, 3, 4] [1] [(mo_st, .inl (k 0, 132, .inl (hst)))] rfl rfl (by decide) (by decide) [1, 0, 2, 3, 4] (fun u_17 => [(mo, .inr (7, [.ref mo_st, .ref mo_at, .ref mo_isKept, .int 0, .int 2, .ref mo_draft, .int 0, .int 2, .int 0, .int (-4), .ref mo_tape, .int 0, .int 0, .int 0, .int 0, .int 0, .int 0, .int 0, .ref mo_row, .int 2, .int 1, .int 3, .int 3, .ref mo_before, .long 0, .long 0, .long 0, .ref mo_lanes, .ref mo_sizes, .ref mo_cells, .int 0, .ref mo_had])), (mo_st, .inl (k 0, 132, .inl (hst))), (mo_at, .inl (k 0, 44, .inl (hst))), (mo_row, .inl (k 0, 5, .inl (upd (upd (upd (upd (upd (upd (upd (upd hsz 1 0) 0 0) 1 1) 0 0) 1 0) 0 1) 1 1) 0 1))), (mo_before, .inl (k 0, 25, .inl (upd (upd hsz 1 1) 5 1)))]) (fun _ => rfl) (by decide) (fun u_17 H locs hw_16 hP hD hS => ?_)
          have hP : va_P D vwCl [(mo, .inr (7, [.ref mo_st, .ref mo_at, .ref mo_isKept, .int 0, .int 2, .ref mo_draft, .int 0, .int 2, .int 0, .int (-4), .ref mo_tape, .int 0, .int 0, .int 0, .int 0, .int 0, .int 0, .int 0, .ref mo_row, .int 2, .int 1, .int 3, .int 3, .ref mo_before, .long 0, .long 0, .long 0, .ref mo_lanes, .ref mo_sizes, .ref mo_cells, .int 0, .ref mo_had])), (mo_st, .inl (k 0, 132, .inl (hst))), (mo_at, .inl (k 0, 44, .inl (hst))), (mo_row, .inl (k 0, 5, .inl (upd (upd (upd (upd (upd (upd (upd (upd hsz 1 0) 0 0) 1 1) 0 0) 1 0) 0 1) 1 1) 0 1))), (mo_before, .inl (k 0, 25, .inl (upd (upd hsz 1 1) 5 1)))] H := hP
          have hD : va_D A [(mo, .inr (7, [.ref mo_st, .ref mo_at, .ref mo_isKept, .int 0, .int 2, .ref mo_draft, .int 0, .int 2, .int 0, .int (-4), .ref mo_tape, .int 0, .int 0, .int 0, .int 0, .int 0, .int 0, .int 0, .ref mo_row, .int 2, .int 1, .int 3, .int 3, .ref mo_before, .long 0, .long 0, .long 0, .ref mo_lanes, .ref mo_sizes, .ref mo_cells, .int 0, .ref mo_had])), (mo_st, .inl (k 0, 132, .inl (hst))), (mo_at, .inl (k 0, 44, .inl (hst))), (mo_row, .inl (k 0, 5, .inl (upd (upd (upd (upd (upd (upd (upd (upd hsz 1 0) 0 0) 1 1) 0 0) 1 0) 0 1) 1 1) 0 1))), (mo_before, .inl (k 0, 25, .inl (upd (upd hsz 1 1) 5 1)))] := hD
          refine lv_aload_n hx hb dX8_lighter_66 rfl (lv_at hl 0 rfl) ?_
          refine va_get (D := D) (ci := 7) (v := .ref mo_before) (C := RX8) (T := TX8) (N := 32) hx hb hts hiX8 hown hK hP 0 rfl rfl 23 (by decide) fl29 (fun _ h9 => h9) rfl dX8_lighter_67 ?_
          refine lv_iconst (v := 5) hx hb dX8_lighter_70 (by decide) ?_
          refine lv_iload_n hx hb dX8_lighter_71 rfl (lv_at hl 1 rfl) ?_
          refine lv_imul hx hb dX8_lighter_72 ?_
          refine hs_topi 0 (by first | rfl | decide +kernel) ?_
          refine lv_iload_n hx hb dX8_lighter_73 rfl (lv_at hl 2 rfl) ?_
          refine lv_iadd hx hb dX8_lighter_74 ?_
          refine hs_topi 1 (by first | rfl | decide +kernel) ?_
          refine va_iald hx hb hK hP 4 0 rfl rfl (hs_in (by decide)) dX8_lighter_75 ?_
          refine hs_topi 1 (by first | rfl | decide +kernel) ?_
          refine lv_if_ne (tgt := 82) hx hb dX8_lighter_76 (by decide) (fun c_18 => ?_) (fun c_18 => absurd c_18 (by decide))
          refine lv_aload_n hx hb dX8_lighter_82 rfl (lv_at hl 0 rfl) ?_
          refine va_get (D := D) (ci := 7) (v := .ref mo_st) (C := RX8) (T := TX8) (N := 32) hx hb hts hiX8 hown hK hP 0 rfl rfl 0 (by decide) fl7 (fun _ h9 => h9) rfl dX8_lighter_83 ?_
          refine lv_bipush (v := 17) hx hb dX8_lighter_86 (by decide) ?_
          refine lv_aload_n hx hb dX8_lighter_88 rfl (lv_at hl 0 rfl) ?_
          refine va_get (D := D) (ci := 7) (v := .ref mo_st) (C := RX8) (T := TX8) (N := 32) hx hb hts hiX8 hown hK hP 0 rfl rfl 0 (by decide) fl7 (fun _ h9 => h9) rfl dX8_lighter_89 ?_
          refine lv_bipush (v := 16) hx hb dX8_lighter_92 (by decide) ?_
          refine va_iald hx hb hK hP 1 0 rfl rfl (hs_in (by decide)) dX8_lighter_94 ?_
          refine hs_topi 0 (by first | rfl | decide +kernel) ?_
          refine lv_iadd hx hb dX8_lighter_95 ?_
          refine hs_topi 17 (by first | rfl | decide +kernel) ?_
          refine lv_bipush (v := 10) hx hb dX8_lighter_96 (by decide) ?_
          refine lv_iload_n hx hb dX8_lighter_98 rfl (lv_at hl 1 rfl) ?_
          refine lv_imul hx hb dX8_lighter_99 ?_
          refine hs_topi 0 (by first | rfl | decide +kernel) ?_
          refine lv_iload_n hx hb dX8_lighter_100 rfl (lv_at hl 2 rfl) ?_
          refine lv_iadd hx hb dX8_lighter_101 ?_
          refine hs_topi 1 (by first | rfl | decide +kernel) ?_
          refine va_iast hx hb hK hP hD hS 1 0 rfl rfl (hs_in (by decide)) dX8_lighter_102 (fun H locs hP hD hS => ?_)
          have hP : va_P D vwCl [(mo, .inr (7, [.ref mo_st, .ref mo_at, .ref mo_isKept, .int 0, .int 2, .ref mo_draft, .int 0, .int 2, .int 0, .int (-4), .ref mo_tape, .int 0, .int 0, .int 0, .int 0, .int 0, .int 0, .int 0, .ref mo_row, .int 2, .int 1, .int 3, .int 3, .ref mo_before, .long 0, .long 0, .long 0, .ref mo_lanes, .ref mo_sizes, .ref mo_cells, .int 0, .ref mo_had])), (mo_st, .inl (k 0, 132, .inl (upd hst 17 1))), (mo_at, .inl (k 0, 44, .inl (hst))), (mo_row, .inl (k 0, 5, .inl (upd (upd (upd (upd (upd (upd (upd (upd hsz 1 0) 0 0) 1 1) 0 0) 1 0) 0 1) 1 1) 0 1))), (mo_before, .inl (k 0, 25, .inl (upd (upd hsz 1 1) 5 1)))] H := hP
          have hD : va_D A [(mo, .inr (7, [.ref mo_st, .ref mo_at, .ref mo_isKept, .int 0, .int 2, .ref mo_draft, .int 0, .int 2, .int 0, .int (-4), .ref mo_tape, .int 0, .int 0, .int 0, .int 0, .int 0, .int 0, .int 0, .ref mo_row, .int 2, .int 1, .int 3, .int 3, .ref mo_before, .long 0, .long 0, .long 0, .ref mo_lanes, .ref mo_sizes, .ref mo_cells, .int 0, .ref mo_had])), (mo_st, .inl (k 0, 132, .inl (upd hst 17 1))), (mo_at, .inl (k 0, 44, .inl (hst))), (mo_row, .inl (k 0, 5, .inl (upd (upd (upd (upd (upd (upd (upd (upd hsz 1 0) 0 0) 1 1) 0 0) 1 0) 0 1) 1 1) 0 1))), (mo_before, .inl (k 0, 25, .inl (upd (upd hsz 1 1) 5 1)))] := hD
          refine lv_aload_n hx hb dX8_lighter_103 rfl (lv_at hl 0 rfl) ?_
          refine va_get (D := D) (ci := 7) (v := .ref mo_st) (C := RX8) (T := TX8) (N := 32) hx hb hts hiX8 hown hK hP 0 rfl rfl 0 (by decide) fl7 (fun _ h9 => h9) rfl dX8_lighter_104 ?_
          refine lv_bipush (v := 16) hx hb dX8_lighter_107 (by decide) ?_
          refine lv_dup2_11 hx hb dX8_lighter_109 rfl rfl ?_
          refine va_iald hx hb hK hP 1 0 rfl rfl (hs_in (by decide)) dX8_lighter_110 ?_
          refine hs_topi 0 (by first | rfl | decide +kernel) ?_
          refine lv_iconst (v := 1) hx hb dX8_lighter_111 (by decide) ?_
          refine lv_iadd hx hb dX8_lighter_112 ?_
          refine hs_topi 1 (by first | rfl | decide +kernel) ?_
          refine va_iast hx hb hK hP hD hS 1 0 rfl rfl (hs_in (by decide)) dX8_lighter_113 (fun H locs hP hD hS => ?_)
          have hP : va_P D vwCl [(mo, .inr (7, [.ref mo_st, .ref mo_at, .ref mo_isKept, .int 0, .int 2, .ref mo_draft, .int 0, .int 2, .int 0, .int (-4), .ref mo_tape, .int 0, .int 0, .int 0, .int 0, .int 0, .int 0, .int 0, .ref mo_row, .int 2, .int 1, .int 3, .int 3, .ref mo_before, .long 0, .long 0, .long 0, .ref mo_lanes, .ref mo_sizes, .ref mo_cells, .int 0, .ref mo_had])), (mo_st, .inl (k 0, 132, .inl (upd (upd hst 17 1) 16 1))), (mo_at, .inl (k 0, 44, .inl (hst))), (mo_row, .inl (k 0, 5, .inl (upd (upd (upd (upd (upd (upd (upd (upd hsz 1 0) 0 0) 1 1) 0 0) 1 0) 0 1) 1 1) 0 1))), (mo_before, .inl (k 0, 25, .inl (upd (upd hsz 1 1) 5 1)))] H := hP
          have hD : va_D A [(mo, .inr (7, [.ref mo_st, .ref mo_at, .ref mo_isKept, .int 0, .int 2, .ref mo_draft, .int 0, .int 2, .int 0, .int (-4), .ref mo_tape, .int 0, .int 0, .int 0, .int 0, .int 0, .int 0, .int 0, .ref mo_row, .int 2, .int 1, .int 3, .int 3, .ref mo_before, .long 0, .long 0, .long 0, .ref mo_lanes, .ref mo_sizes, .ref mo_cells, .int 0, .ref mo_had])), (mo_st, .inl (k 0, 132, .inl (upd (upd hst 17 1) 16 1))), (mo_at, .inl (k 0, 44, .inl (hst))), (mo_row, .inl (k 0, 5, .inl (upd (upd (upd (upd (upd (upd (upd (upd hsz 1 0) 0 0) 1 1) 0 0) 1 0) 0 1) 1 1) 0 1))), (mo_before, .inl (k 0, 25, .inl (upd (upd hsz 1 1) 5 1)))] := hD
          refine lv_aload_n hx hb dX8_lighter_114 rfl (lv_at hl 0 rfl) ?_
          refine va_get (D := D) (ci := 7) (v := .ref mo_st) (C := RX8) (T := TX8) (N := 32) hx hb hts hiX8 hown hK hP 0 rfl rfl 0 (by decide) fl7 (fun _ h9 => h9) rfl dX8_lighter_115 ?_
          refine lv_bipush (v := 16) hx hb dX8_lighter_118 (by decide) ?_
          refine va_iald hx hb hK hP 1 0 rfl rfl (hs_in (by decide)) dX8_lighter_120 ?_
          refine hs_topi 1 (by first | rfl | decide +kernel) ?_
          exact hs_iret hx hb hr hlocks hK hP hD hS () [] rfl (by decide) dX8_lighter_121 (by first | rfl | decide | (simp only [hsb_0, hsb_1] at c_4 c_8 c_10 c_11 c_18; simp [A_lighter, c_4, c_8, c_10, c_11, c_18]; done) | (simp [A_lighter, c_4, c_8, c_10, c_11, c_18]; done))
    · refine lv_iload_n hx hb dX8_lighter_16 rfl (lv_at hl 2 rfl) ?_
      refine lv_i2l hx hb dX8_lighter_17 rfl ?_
      refine lv_lconst (v := 0) hx hb dX8_lighter_18 (by decide) ?_
      refine lv_aload_n hx hb dX8_lighter_19 rfl (lv_at hl 0 rfl) ?_
      refine va_get (D := D) (ci := 7) (v := .int 2) (C := RX8) (T := TX8) (N := 32) hx hb hts hiX8 hown hK hP 0 rfl rfl 4 (by decide) fl66 (fun _ h9 => h9) rfl dX8_lighter_20 ?_
      refine lv_iconst (v := 1) hx hb dX8_lighter_23 (by decide) ?_
      refine lv_isub hx hb dX8_lighter_24 ?_
      refine hs_topi 1 (by first | rfl | decide +kernel) ?_
      refine lv_i2l (v := 1) hx hb dX8_lighter_25 (by decide +kernel) ?_
      refine hs_pi (va_runS (As := [.long (((b) : Int32).toInt64), .long 0, .long 1]) (rest := []) ⟨hx, hb, hml, hown, hts⟩ (m_in l D k _ b 0 1) (va_cwS 3 hts gX8_lighter_X8_in rfl rfl rfl (by decide +kernel) ⟨Nat.le_of_ble_eq_true rfl, Nat.le_of_ble_eq_true rfl⟩) (hs_preS hK hN (hs_subP (w := []) hP [] rfl) (hD.sub (ws' := []) [] (by decide) rfl)) rfl rfl hl.1 rfl (lv_room (Nat.le_of_ble_eq_true rfl)) dX8_lighter_26 ⟨Nat.le_of_ble_eq_true rfl, Nat.le_of_ble_eq_true rfl⟩) hP hD hS hA (fun r_19 u_21 H locs hw_20 hP hS => ?_)
      refine hs_topi (hsb (hsin b 0 1)) hw_20 ?_
      refine lv_if_eq (tgt := 37) hx hb dX8_lighter_29 (by decide) (fun c_22 => ?_) (fun c_22 => ?_)
      · refine lv_iconst (v := (-1)) hx hb dX8_lighter_37 (by decide) ?_
        exact hs_iret hx hb hr hlocks hK hP hD hS () [] rfl (by decide) dX8_lighter_38 (by first | rfl | decide | (simp only [hsb_0, hsb_1] at c_4 c_22; simp [A_lighter, c_4, c_22]; done) | (simp [A_lighter, c_4, c_22]; done))
      · rcases hs_v01 (hs_nb c_22) with rfl | rfl
        · refine lv_iload_n hx hb dX8_lighter_32 rfl (lv_at hl 1 rfl) ?_
          refine lv_iload_n hx hb dX8_lighter_33 rfl (lv_at hl 2 rfl) ?_
          refine lv_icmp_ne (tgt := 39) hx hb dX8_lighter_34 (by decide) (fun c_23 => ?_) (fun c_23 => absurd c_23 (by decide))
          refine lv_aload_n hx hb dX8_lighter_39 rfl (lv_at hl 0 rfl) ?_
          refine va_get (D := D) (ci := 7) (v := .ref mo_st) (C := RX8) (T := TX8) (N := 32) hx hb hts hiX8 hown hK hP 0 rfl rfl 0 (by decide) fl7 (fun _ h9 => h9) rfl dX8_lighter_40 ?_
          refine lv_bipush (v := 16) hx hb dX8_lighter_43 (by decide) ?_
          refine va_iald hx hb hK hP 1 0 rfl rfl (hs_in (by decide)) dX8_lighter_45 ?_
          refine hs_topi 0 (by first | rfl | decide +kernel) ?_
          refine lv_bipush (v := 8) hx hb dX8_lighter_46 (by decide) ?_
          refine lv_icmp_ne (tgt := 54) hx hb dX8_lighter_48 (by decide) (fun c_24 => ?_) (fun c_24 => absurd c_24 (by decide))
          refine lv_aload_n hx hb dX8_lighter_54 rfl (lv_at hl 0 rfl) ?_
          refine hs_cv (va_runV (As := []) (rest := []) ⟨hx, hb, hml, hown, hts⟩ (m_starts l D k _ mo mo_st mo_at mo_isKept 0 2 mo_draft 0 2 0 (-4) mo_tape 0 0 0 0 0 0 0 mo_row 0 0 0 0 mo_before 0 0 0 mo_lanes mo_sizes mo_cells 0 mo_had) (cwV 0 hts gX8_lighter_X8_starts rfl rfl rfl (by decide +kernel) ⟨Nat.le_of_ble_eq_true rfl, Nat.le_of_ble_eq_true rfl⟩) (hs_preV hK hN (hs_subP (w := [(mo, .inr (7, [.ref mo_st, .ref mo_at, .ref mo_isKept, .int 0, .int 2, .ref mo_draft, .int 0, .int 2, .int 0, .int (-4), .ref mo_tape, .int 0, .int 0, .int 0, .int 0, .int 0, .int 0, .int 0, .ref mo_row, .int 0, .int 0, .int 0, .int 0, .ref mo_before, .long 0, .long 0, .long 0, .ref mo_lanes, .ref mo_sizes, .ref mo_cells, .int 0, .ref mo_had])), (mo_st, .inl (k 0, 132, .inl (hst))), (mo_at, .inl (k 0, 44, .inl (hsz)))]) hP [0, 1, 2] rfl) (hD.sub (ws' := [(mo, .inr (7, [.ref mo_st, .ref mo_at, .ref mo_isKept, .int 0, .int 2, .ref mo_draft, .int 0, .int 2, .int 0, .int (-4), .ref mo_tape, .int 0, .int 0, .int 0, .int 0, .int 0, .int 0, .int 0, .ref mo_row, .int 0, .int 0, .int 0, .int 0, .ref mo_before, .long 0, .long 0, .long 0, .ref mo_lanes, .ref mo_sizes, .ref mo_cells, .int 0, .ref mo_had])), (mo_st, .inl (k 0, 132, .inl (hst))), (mo_at, .inl (k 0, 44, .inl (hsz)))]) [0, 1, 2] (by decide) rfl) (ci := 7) (q0 := 0) rfl rfl) rfl rfl hl.1 rfl (lv_room (Nat.le_of_ble_eq_true rfl)) dX8_lighter_55 ⟨Nat.le_of_ble_eq_true rfl, Nat.le_of_ble_eq_true rfl⟩) hP hD hS hA [0, 1, 2] [3, 4] [(mo_row, .inl (k 0, 5, .inl (hsz))), (mo_before, .inl (k 0, 25, .inl (hsz)))] rfl rfl (by decide) (by decide) [2, 3, 4, 0, 1] (fun u_27 => [(mo, .inr (7, [.ref mo_st, .ref mo_at, .ref mo_isKept, .int 0, .int 2, .ref mo_draft, .int 0, .int 2, .int 0, .int (-4), .ref mo_tape, .int 0, .int 0, .int 0, .int 0, .int 0, .int 0, .int 0, .ref mo_row, .int 0, .int 0, .int 0, .int 0, .ref mo_before, .long 0, .long 0, .long 0, .ref mo_lanes, .ref mo_sizes, .ref mo_cells, .int 0, .ref mo_had])), (mo_st, .inl (k 0, 132, .inl (hst))), (mo_at, .inl (k 0, 44, .inl (hst))), (mo_row, .inl (k 0, 5, .inl (hsz))), (mo_before, .inl (k 0, 25, .inl (hsz)))]) (fun _ => rfl) (by decide) (fun u_27 H locs hw_26 hP hD hS => ?_)
          have hP : va_P D vwCl [(mo, .inr (7, [.ref mo_st, .ref mo_at, .ref mo_isKept, .int 0, .int 2, .ref mo_draft, .int 0, .int 2, .int 0, .int (-4), .ref mo_tape, .int 0, .int 0, .int 0, .int 0, .int 0, .int 0, .int 0, .ref mo_row, .int 0, .int 0, .int 0, .int 0, .ref mo_before, .long 0, .long 0, .long 0, .ref mo_lanes, .ref mo_sizes, .ref mo_cells, .int 0, .ref mo_had])), (mo_st, .inl (k 0, 132, .inl (hst))), (mo_at, .inl (k 0, 44, .inl (hst))), (mo_row, .inl (k 0, 5, .inl (hsz))), (mo_before, .inl (k 0, 25, .inl (hsz)))] H := hP
          have hD : va_D A [(mo, .inr (7, [.ref mo_st, .ref mo_at, .ref mo_isKept, .int 0, .int 2, .ref mo_draft, .int 0, .int 2, .int 0, .int (-4), .ref mo_tape, .int 0, .int 0, .int 0, .int 0, .int 0, .int 0, .int 0, .ref mo_row, .int 0, .int 0, .int 0, .int 0, .ref mo_before, .long 0, .long 0, .long 0, .ref mo_lanes, .ref mo_sizes, .ref mo_cells, .int 0, .ref mo_had])), (mo_st, .inl (k 0, 132, .inl (hst))), (mo_at, .inl (k 0, 44, .inl (hst))), (mo_row, .inl (k 0, 5, .inl (hsz))), (mo_before, .inl (k 0, 25, .inl (hsz)))] := hD
          refine lv_aload_n hx hb dX8_lighter_58 rfl (lv_at hl 0 rfl) ?_
          refine lv_aload_n hx hb dX8_lighter_59 rfl (lv_at hl 0 rfl) ?_
          refine va_get (D := D) (ci := 7) (v := .int 2) (C := RX8) (T := TX8) (N := 32) hx hb hts hiX8 hown hK hP 0 rfl rfl 4 (by decide) fl66 (fun _ h9 => h9) rfl dX8_lighter_60 ?_
          refine hs_cv (va_runV (As := [.int 2]) (rest := []) ⟨hx, hb, hml, hown, hts⟩ (m_findOrders0 l D k _ mo mo_st mo_at mo_isKept 0 2 mo_draft 0 2 0 (-4) mo_tape 0 0 0 0 0 0 0 mo_row 0 0 0 0 mo_before 0 0 0 mo_lanes mo_sizes mo_cells 0 mo_had) (cwV 1 hts gX8_lighter_X8_findOrders rfl rfl rfl (by decide +kernel) ⟨Nat.le_of_ble_eq_true rfl, Nat.le_of_ble_eq_true rfl⟩) (hs_preV hK hN (hs_subP (w := [(mo, .inr (7, [.ref mo_st, .ref mo_at, .ref mo_isKept, .int 0, .int 2, .ref mo_draft, .int 0, .int 2, .int 0, .int (-4), .ref mo_tape, .int 0, .int 0, .int 0, .int 0, .int 0, .int 0, .int 0, .ref mo_row, .int 0, .int 0, .int 0, .int 0, .ref mo_before, .long 0, .long 0, .long 0, .ref mo_lanes, .ref mo_sizes, .ref mo_cells, .int 0, .ref mo_had])), (mo_at, .inl (k 0, 44, .inl (hst))), (mo_row, .inl (k 0, 5, .inl (hsz))), (mo_before, .inl (k 0, 25, .inl (hsz)))]) hP [0, 2, 3, 4] rfl) (hD.sub (ws' := [(mo, .inr (7, [.ref mo_st, .ref mo_at, .ref mo_isKept, .int 0, .int 2, .ref mo_draft, .int 0, .int 2, .int 0, .int (-4), .ref mo_tape, .int 0, .int 0, .int 0, .int 0, .int 0, .int 0, .int 0, .ref mo_row, .int 0, .int 0, .int 0, .int 0, .ref mo_before, .long 0, .long 0, .long 0, .ref mo_lanes, .ref mo_sizes, .ref mo_cells, .int 0, .ref mo_had])), (mo_at, .inl (k 0, 44, .inl (hst))), (mo_row, .inl (k 0, 5, .inl (hsz))), (mo_before, .inl (k 0, 25, .inl (hsz)))]) [0, 2, 3, 4] (by decide) rfl) (ci := 7) (q0 := 0) rfl rfl) rfl rfl hl.1 rfl (lv_room (Nat.le_of_ble_eq_true rfl)) dX8_lighter_63 ⟨Nat.le_of_ble_eq_true rfl, Nat.le_of_ble_eq_true rfl⟩) hP hD hS hA [0, 2, 3, 4] [1] [(mo_st, .inl (k 0, 132, .inl (hst)))] rfl rfl (by decide) (by decide) [1, 0, 2, 3, 4] (fun u_30 => [(mo, .inr (7, [.ref mo_st, .ref mo_at, .ref mo_isKept, .int 0, .int 2, .ref mo_draft, .int 0, .int 2, .int 0, .int (-4), .ref mo_tape, .int 0, .int 0, .int 0, .int 0, .int 0, .int 0, .int 0, .ref mo_row, .int 2, .int 1, .int 3, .int 3, .ref mo_before, .long 0, .long 0, .long 0, .ref mo_lanes, .ref mo_sizes, .ref mo_cells, .int 0, .ref mo_had])), (mo_st, .inl (k 0, 132, .inl (hst))), (mo_at, .inl (k 0, 44, .inl (hst))), (mo_row, .inl (k 0, 5, .inl (upd (upd (upd (upd (upd (upd (upd (upd hsz 1 0) 0 0) 1 1) 0 0) 1 0) 0 1) 1 1) 0 1))), (mo_before, .inl (k 0, 25, .inl (upd (upd hsz 1 1) 5 1)))]) (fun _ => rfl) (by decide) (fun u_30 H locs hw_29 hP hD hS => ?_)
          have hP : va_P D vwCl [(mo, .inr (7, [.ref mo_st, .ref mo_at, .ref mo_isKept, .int 0, .int 2, .ref mo_draft, .int 0, .int 2, .int 0, .int (-4), .ref mo_tape, .int 0, .int 0, .int 0, .int 0, .int 0, .int 0, .int 0, .ref mo_row, .int 2, .int 1, .int 3, .int 3, .ref mo_before, .long 0, .long 0, .long 0, .ref mo_lanes, .ref mo_sizes, .ref mo_cells, .int 0, .ref mo_had])), (mo_st, .inl (k 0, 132, .inl (hst))), (mo_at, .inl (k 0, 44, .inl (hst))), (mo_row, .inl (k 0, 5, .inl (upd (upd (upd (upd (upd (upd (upd (upd hsz 1 0) 0 0) 1 1) 0 0) 1 0) 0 1) 1 1) 0 1))), (mo_before, .inl (k 0, 25, .inl (upd (upd hsz 1 1) 5 1)))] H := hP
          have hD : va_D A [(mo, .inr (7, [.ref mo_st, .ref mo_at, .ref mo_isKept, .int 0, .int 2, .ref mo_draft, .int 0, .int 2, .int 0, .int (-4), .ref mo_tape, .int 0, .int 0, .int 0, .int 0, .int 0, .int 0, .int 0, .ref mo_row, .int 2, .int 1, .int 3, .int 3, .ref mo_before, .long 0, .long 0, .long 0, .ref mo_lanes, .ref mo_sizes, .ref mo_cells, .int 0, .ref mo_had])), (mo_st, .inl (k 0, 132, .inl (hst))), (mo_at, .inl (k 0, 44, .inl (hst))), (mo_row, .inl (k 0, 5, .inl (upd (upd (upd (upd (upd (upd (upd (upd hsz 1 0) 0 0) 1 1) 0 0) 1 0) 0 1) 1 1) 0 1))), (mo_before, .inl (k 0, 25, .inl (upd (upd hsz 1 1) 5 1)))] := hD
          refine lv_aload_n hx hb dX8_lighter_66 rfl (lv_at hl 0 rfl) ?_
          refine va_get (D := D) (ci := 7) (v := .ref mo_before) (C := RX8) (T := TX8) (N := 32) hx hb hts hiX8 hown hK hP 0 rfl rfl 23 (by decide) fl29 (fun _ h9 => h9) rfl dX8_lighter_67 ?_
          refine lv_iconst (v := 5) hx hb dX8_lighter_70 (by decide) ?_
          refine lv_iload_n hx hb dX8_lighter_71 rfl (lv_at hl 1 rfl) ?_
          refine lv_imul hx hb dX8_lighter_72 ?_
          refine hs_topi 5 (by first | rfl | decide +kernel) ?_
          refine lv_iload_n hx hb dX8_lighter_73 rfl (lv_at hl 2 rfl) ?_
          refine lv_iadd hx hb dX8_lighter_74 ?_
          refine hs_topi 5 (by first | rfl | decide +kernel) ?_
          refine va_iald hx hb hK hP 4 0 rfl rfl (hs_in (by decide)) dX8_lighter_75 ?_
          refine hs_topi 1 (by first | rfl | decide +kernel) ?_
          refine lv_if_ne (tgt := 82) hx hb dX8_lighter_76 (by decide) (fun c_31 => ?_) (fun c_31 => absurd c_31 (by decide))
          refine lv_aload_n hx hb dX8_lighter_82 rfl (lv_at hl 0 rfl) ?_
          refine va_get (D := D) (ci := 7) (v := .ref mo_st) (C := RX8) (T := TX8) (N := 32) hx hb hts hiX8 hown hK hP 0 rfl rfl 0 (by decide) fl7 (fun _ h9 => h9) rfl dX8_lighter_83 ?_
          refine lv_bipush (v := 17) hx hb dX8_lighter_86 (by decide) ?_
          refine lv_aload_n hx hb dX8_lighter_88 rfl (lv_at hl 0 rfl) ?_
          refine va_get (D := D) (ci := 7) (v := .ref mo_st) (C := RX8) (T := TX8) (N := 32) hx hb hts hiX8 hown hK hP 0 rfl rfl 0 (by decide) fl7 (fun _ h9 => h9) rfl dX8_lighter_89 ?_
          refine lv_bipush (v := 16) hx hb dX8_lighter_92 (by decide) ?_
          refine va_iald hx hb hK hP 1 0 rfl rfl (hs_in (by decide)) dX8_lighter_94 ?_
          refine hs_topi 0 (by first | rfl | decide +kernel) ?_
          refine lv_iadd hx hb dX8_lighter_95 ?_
          refine hs_topi 17 (by first | rfl | decide +kernel) ?_
          refine lv_bipush (v := 10) hx hb dX8_lighter_96 (by decide) ?_
          refine lv_iload_n hx hb dX8_lighter_98 rfl (lv_at hl 1 rfl) ?_
          refine lv_imul hx hb dX8_lighter_99 ?_
          refine hs_topi 10 (by first | rfl | decide +kernel) ?_
          refine lv_iload_n hx hb dX8_lighter_100 rfl (lv_at hl 2 rfl) ?_
          refine lv_iadd hx hb dX8_lighter_101 ?_
          refine hs_topi 10 (by first | rfl | decide +kernel) ?_
          refine va_iast hx hb hK hP hD hS 1 0 rfl rfl (hs_in (by decide)) dX8_lighter_102 (fun H locs hP hD hS => ?_)
          have hP : va_P D vwCl [(mo, .inr (7, [.ref mo_st, .ref mo_at, .ref mo_isKept, .int 0, .int 2, .ref mo_draft, .int 0, .int 2, .int 0, .int (-4), .ref mo_tape, .int 0, .int 0, .int 0, .int 0, .int 0, .int 0, .int 0, .ref mo_row, .int 2, .int 1, .int 3, .int 3, .ref mo_before, .long 0, .long 0, .long 0, .ref mo_lanes, .ref mo_sizes, .ref mo_cells, .int 0, .ref mo_had])), (mo_st, .inl (k 0, 132, .inl (upd hst 17 10))), (mo_at, .inl (k 0, 44, .inl (hst))), (mo_row, .inl (k 0, 5, .inl (upd (upd (upd (upd (upd (upd (upd (upd hsz 1 0) 0 0) 1 1) 0 0) 1 0) 0 1) 1 1) 0 1))), (mo_before, .inl (k 0, 25, .inl (upd (upd hsz 1 1) 5 1)))] H := hP
          have hD : va_D A [(mo, .inr (7, [.ref mo_st, .ref mo_at, .ref mo_isKept, .int 0, .int 2, .ref mo_draft, .int 0, .int 2, .int 0, .int (-4), .ref mo_tape, .int 0, .int 0, .int 0, .int 0, .int 0, .int 0, .int 0, .ref mo_row, .int 2, .int 1, .int 3, .int 3, .ref mo_before, .long 0, .long 0, .long 0, .ref mo_lanes, .ref mo_sizes, .ref mo_cells, .int 0, .ref mo_had])), (mo_st, .inl (k 0, 132, .inl (upd hst 17 10))), (mo_at, .inl (k 0, 44, .inl (hst))), (mo_row, .inl (k 0, 5, .inl (upd (upd (upd (upd (upd (upd (upd (upd hsz 1 0) 0 0) 1 1) 0 0) 1 0) 0 1) 1 1) 0 1))), (mo_before, .inl (k 0, 25, .inl (upd (upd hsz 1 1) 5 1)))] := hD
          refine lv_aload_n hx hb dX8_lighter_103 rfl (lv_at hl 0 rfl) ?_
          refine va_get (D := D) (ci := 7) (v := .ref mo_st) (C := RX8) (T := TX8) (N := 32) hx hb hts hiX8 hown hK hP 0 rfl rfl 0 (by decide) fl7 (fun _ h9 => h9) rfl dX8_lighter_104 ?_
          refine lv_bipush (v := 16) hx hb dX8_lighter_107 (by decide) ?_
          refine lv_dup2_11 hx hb dX8_lighter_109 rfl rfl ?_
          refine va_iald hx hb hK hP 1 0 rfl rfl (hs_in (by decide)) dX8_lighter_110 ?_
          refine hs_topi 0 (by first | rfl | decide +kernel) ?_
          refine lv_iconst (v := 1) hx hb dX8_lighter_111 (by decide) ?_
          refine lv_iadd hx hb dX8_lighter_112 ?_
          refine hs_topi 1 (by first | rfl | decide +kernel) ?_
          refine va_iast hx hb hK hP hD hS 1 0 rfl rfl (hs_in (by decide)) dX8_lighter_113 (fun H locs hP hD hS => ?_)
          have hP : va_P D vwCl [(mo, .inr (7, [.ref mo_st, .ref mo_at, .ref mo_isKept, .int 0, .int 2, .ref mo_draft, .int 0, .int 2, .int 0, .int (-4), .ref mo_tape, .int 0, .int 0, .int 0, .int 0, .int 0, .int 0, .int 0, .ref mo_row, .int 2, .int 1, .int 3, .int 3, .ref mo_before, .long 0, .long 0, .long 0, .ref mo_lanes, .ref mo_sizes, .ref mo_cells, .int 0, .ref mo_had])), (mo_st, .inl (k 0, 132, .inl (upd (upd hst 17 10) 16 1))), (mo_at, .inl (k 0, 44, .inl (hst))), (mo_row, .inl (k 0, 5, .inl (upd (upd (upd (upd (upd (upd (upd (upd hsz 1 0) 0 0) 1 1) 0 0) 1 0) 0 1) 1 1) 0 1))), (mo_before, .inl (k 0, 25, .inl (upd (upd hsz 1 1) 5 1)))] H := hP
          have hD : va_D A [(mo, .inr (7, [.ref mo_st, .ref mo_at, .ref mo_isKept, .int 0, .int 2, .ref mo_draft, .int 0, .int 2, .int 0, .int (-4), .ref mo_tape, .int 0, .int 0, .int 0, .int 0, .int 0, .int 0, .int 0, .ref mo_row, .int 2, .int 1, .int 3, .int 3, .ref mo_before, .long 0, .long 0, .long 0, .ref mo_lanes, .ref mo_sizes, .ref mo_cells, .int 0, .ref mo_had])), (mo_st, .inl (k 0, 132, .inl (upd (upd hst 17 10) 16 1))), (mo_at, .inl (k 0, 44, .inl (hst))), (mo_row, .inl (k 0, 5, .inl (upd (upd (upd (upd (upd (upd (upd (upd hsz 1 0) 0 0) 1 1) 0 0) 1 0) 0 1) 1 1) 0 1))), (mo_before, .inl (k 0, 25, .inl (upd (upd hsz 1 1) 5 1)))] := hD
          refine lv_aload_n hx hb dX8_lighter_114 rfl (lv_at hl 0 rfl) ?_
          refine va_get (D := D) (ci := 7) (v := .ref mo_st) (C := RX8) (T := TX8) (N := 32) hx hb hts hiX8 hown hK hP 0 rfl rfl 0 (by decide) fl7 (fun _ h9 => h9) rfl dX8_lighter_115 ?_
          refine lv_bipush (v := 16) hx hb dX8_lighter_118 (by decide) ?_
          refine va_iald hx hb hK hP 1 0 rfl rfl (hs_in (by decide)) dX8_lighter_120 ?_
          refine hs_topi 1 (by first | rfl | decide +kernel) ?_
          exact hs_iret hx hb hr hlocks hK hP hD hS () [] rfl (by decide) dX8_lighter_121 (by first | rfl | decide | (simp only [hsb_0, hsb_1] at c_4 c_22 c_23 c_24 c_31; simp [A_lighter, c_4, c_22, c_23, c_24, c_31]; done) | (simp [A_lighter, c_4, c_22, c_23, c_24, c_31]; done))
        · refine lv_iload_n hx hb dX8_lighter_32 rfl (lv_at hl 1 rfl) ?_
          refine lv_iload_n hx hb dX8_lighter_33 rfl (lv_at hl 2 rfl) ?_
          refine lv_icmp_ne (tgt := 39) hx hb dX8_lighter_34 (by decide) (fun c_32 => absurd c_32 (by decide)) (fun c_32 => ?_)
          refine lv_iconst (v := (-1)) hx hb dX8_lighter_37 (by decide) ?_
          exact hs_iret hx hb hr hlocks hK hP hD hS () [] rfl (by decide) dX8_lighter_38 (by first | rfl | decide | (simp only [hsb_0, hsb_1] at c_4 c_22 c_32; simp [A_lighter, c_4, c_22, c_32]; done) | (simp [A_lighter, c_4, c_22, c_32]; done))

set_option maxHeartbeats 4000000 in
set_option maxRecDepth 100000 in
theorem q_worth (l : Launch) (D : va_G) (k : Nat → ClassId) (sz : Nat) (mo : Nat) (mo_st : Nat) (mo_at : Nat) (mo_isKept : Nat) (mo_draft : Nat) (mo_tape : Nat) (mo_row : Nat) (mo_before : Nat) (mo_lanes : Nat) (mo_sizes : Nat) (mo_cells : Nat) (mo_had : Nat) (i : Int32) (v : Int32)  : MI l yX8_worth wsX8_worth ({ frames := 2, cells := 0, slots := 0, locals := 46 }) D k [.ref mo, .int i, .int v] [(mo, .inr (7, [.ref mo_st, .ref mo_at, .ref mo_isKept, .int 0, .int 2, .ref mo_draft, .int 0, .int 2, .int 0, .int (-4), .ref mo_tape, .int 0, .int 0, .int 0, .int 0, .int 0, .int 0, .int 0, .ref mo_row, .int 0, .int 0, .int 0, .int 0, .ref mo_before, .long 0, .long 0, .long 0, .ref mo_lanes, .ref mo_sizes, .ref mo_cells, .int 0, .ref mo_had])), (mo_st, .inl (k 0, 132, .inl (hst)))] sz (fun (r : Int32) (u : Unit) => r = A_worth i v) (fun (u : Unit) => []) := by
  refine Met.ofW (cc := cX8_worth) (maxL := 3) (ret := (some .int)) (by decide) rfl ?_
  intro p e s m args below meth c s₁ B hml hv
  obtain ⟨rfl, hsz, hP, hK, hD0, hN⟩ := hv
  have hx := B.exec
  have hb := B.bytes
  have hr := B.returns
  have hlocks := B.notSynchronized
  have hts := atoms_spec (ws := wsX8_worth) B.pre
  have hown : s.vm.findClass RX8 = some m.cls := findClass_of_methodNamed B.named
  subst hsz
  have hD := hD0.self (sz := s.heap.size)
  generalize hAe : va_A [(mo, .inr (7, [.ref mo_st, .ref mo_at, .ref mo_isKept, .int 0, .int 2, .ref mo_draft, .int 0, .int 2, .int 0, .int (-4), .ref mo_tape, .int 0, .int 0, .int 0, .int 0, .int 0, .int 0, .int 0, .ref mo_row, .int 0, .int 0, .int 0, .int 0, .ref mo_before, .long 0, .long 0, .long 0, .ref mo_lanes, .ref mo_sizes, .ref mo_cells, .int 0, .ref mo_had])), (mo_st, .inl (k 0, 132, .inl (hst)))] s.heap.size = A at hD ⊢
  have hA : ∀ q : Nat, s.heap.size ≤ q → A q := fun q h => by rw [← hAe]; exact Or.inr h
  have hS : va_S A s.heap s.heap [] := va_S.rf
  have hl := lv_entry ([.ref mo, .int i, .int v]) (n := 3) (Nat.le_of_ble_eq_true rfl)
  rw [lg_entry_eq]
  generalize (lg_sl ([.ref mo, .int i, .int v]) ++ List.replicate (3 - (lg_sl ([.ref mo, .int i, .int v])).length) Slot.unset).toArray = ls at hl ⊢
  have hl : lv_has ls 3 [(0, .ref mo), (1, .int i), (2, .int v)] := hl
  have hP : va_P D vwCl [(mo, .inr (7, [.ref mo_st, .ref mo_at, .ref mo_isKept, .int 0, .int 2, .ref mo_draft, .int 0, .int 2, .int 0, .int (-4), .ref mo_tape, .int 0, .int 0, .int 0, .int 0, .int 0, .int 0, .int 0, .ref mo_row, .int 0, .int 0, .int 0, .int 0, .ref mo_before, .long 0, .long 0, .long 0, .ref mo_lanes, .ref mo_sizes, .ref mo_cells, .int 0, .ref mo_had])), (mo_st, .inl (k 0, 132, .inl (hst)))] s.heap := hP
  refine lv_aload_n hx hb dX8_worth_0 rfl (lv_at hl 0 rfl) ?_
  refine lv_iload_n hx hb dX8_worth_1 rfl (lv_at hl 1 rfl) ?_
  refine hs_ci (va_runV (As := [.int i]) (rest := []) ⟨hx, hb, hml, hown, hts⟩ (m_isPerson0 l D k _ mo mo_st mo_at mo_isKept mo_draft mo_tape mo_row mo_before mo_lanes mo_sizes mo_cells mo_had i) (cwV 1 hts gX8_worth_X8_isPerson rfl rfl rfl (by decide +kernel) ⟨Nat.le_of_ble_eq_true rfl, Nat.le_of_ble_eq_true rfl⟩) (hs_preV hK hN (hs_subP (w := [(mo, .inr (7, [.ref mo_st, .ref mo_at, .ref mo_isKept, .int 0, .int 2, .ref mo_draft, .int 0, .int 2, .int 0, .int (-4), .ref mo_tape, .int 0, .int 0, .int 0, .int 0, .int 0, .int 0, .int 0, .ref mo_row, .int 0, .int 0, .int 0, .int 0, .ref mo_before, .long 0, .long 0, .long 0, .ref mo_lanes, .ref mo_sizes, .ref mo_cells, .int 0, .ref mo_had])), (mo_st, .inl (k 0, 132, .inl (hst)))]) hP [0, 1] rfl) (hD.sub (ws' := [(mo, .inr (7, [.ref mo_st, .ref mo_at, .ref mo_isKept, .int 0, .int 2, .ref mo_draft, .int 0, .int 2, .int 0, .int (-4), .ref mo_tape, .int 0, .int 0, .int 0, .int 0, .int 0, .int 0, .int 0, .ref mo_row, .int 0, .int 0, .int 0, .int 0, .ref mo_before, .long 0, .long 0, .long 0, .ref mo_lanes, .ref mo_sizes, .ref mo_cells, .int 0, .ref mo_had])), (mo_st, .inl (k 0, 132, .inl (hst)))]) [0, 1] (by decide) rfl) (ci := 7) (q0 := 0) rfl rfl) rfl rfl hl.1 rfl (lv_room (Nat.le_of_ble_eq_true rfl)) dX8_worth_2 ⟨Nat.le_of_ble_eq_true rfl, Nat.le_of_ble_eq_true rfl⟩) hP hD hS hA [0, 1] [] [] rfl rfl (by decide) (by decide) [0, 1] (fun u_3 => [(mo, .inr (7, [.ref mo_st, .ref mo_at, .ref mo_isKept, .int 0, .int 2, .ref mo_draft, .int 0, .int 2, .int 0, .int (-4), .ref mo_tape, .int 0, .int 0, .int 0, .int 0, .int 0, .int 0, .int 0, .ref mo_row, .int 0, .int 0, .int 0, .int 0, .ref mo_before, .long 0, .long 0, .long 0, .ref mo_lanes, .ref mo_sizes, .ref mo_cells, .int 0, .ref mo_had])), (mo_st, .inl (k 0, 132, .inl (hst)))]) (fun _ => rfl) (by decide) (fun r_1 u_3 H locs hw_2 hP hD hS => ?_)
  have hP : va_P D vwCl [(mo, .inr (7, [.ref mo_st, .ref mo_at, .ref mo_isKept, .int 0, .int 2, .ref mo_draft, .int 0, .int 2, .int 0, .int (-4), .ref mo_tape, .int 0, .int 0, .int 0, .int 0, .int 0, .int 0, .int 0, .ref mo_row, .int 0, .int 0, .int 0, .int 0, .ref mo_before, .long 0, .long 0, .long 0, .ref mo_lanes, .ref mo_sizes, .ref mo_cells, .int 0, .ref mo_had])), (mo_st, .inl (k 0, 132, .inl (hst)))] H := hP
  have hD : va_D A [(mo, .inr (7, [.ref mo_st, .ref mo_at, .ref mo_isKept, .int 0, .int 2, .ref mo_draft, .int 0, .int 2, .int 0, .int (-4), .ref mo_tape, .int 0, .int 0, .int 0, .int 0, .int 0, .int 0, .int 0, .ref mo_row, .int 0, .int 0, .int 0, .int 0, .ref mo_before, .long 0, .long 0, .long 0, .ref mo_lanes, .ref mo_sizes, .ref mo_cells, .int 0, .ref mo_had])), (mo_st, .inl (k 0, 132, .inl (hst)))] := hD
  refine hs_topi 0 (hw_2.trans (by first | rfl | decide +kernel | rfl)) ?_
  refine lv_if_eq (tgt := 28) hx hb dX8_worth_5 (by decide) (fun c_4 => ?_) (fun c_4 => absurd c_4 (by decide))
  refine lv_iconst (v := (-1)) hx hb dX8_worth_28 (by decide) ?_
  exact hs_iret hx hb hr hlocks hK hP hD hS () [] rfl (by decide) dX8_worth_29 (by first | rfl | decide | (simp only [hsb_0, hsb_1] at c_4; simp [A_worth, c_4]; done) | (simp [A_worth, c_4]; done))

set_option maxHeartbeats 4000000 in
set_option maxRecDepth 100000 in
theorem q_finds (l : Launch) (D : va_G) (k : Nat → ClassId) (sz : Nat) (mo : Nat) (mo_st : Nat) (mo_at : Nat) (mo_isKept : Nat) (mo_draft : Nat) (mo_tape : Nat) (mo_row : Nat) (mo_before : Nat) (mo_lanes : Nat) (mo_sizes : Nat) (mo_cells : Nat) (mo_had : Nat) (i : Int32) (v : Int32)  : MI l yX8_finds wsX8_finds ({ frames := 2, cells := 0, slots := 0, locals := 46 }) D k [.ref mo, .int i, .int v] [(mo, .inr (7, [.ref mo_st, .ref mo_at, .ref mo_isKept, .int 0, .int 2, .ref mo_draft, .int 0, .int 2, .int 0, .int (-4), .ref mo_tape, .int 0, .int 0, .int 0, .int 0, .int 0, .int 0, .int 0, .ref mo_row, .int 0, .int 0, .int 0, .int 0, .ref mo_before, .long 0, .long 0, .long 0, .ref mo_lanes, .ref mo_sizes, .ref mo_cells, .int 0, .ref mo_had])), (mo_st, .inl (k 0, 132, .inl (hst)))] sz (fun (r : Int32) (u : Unit) => r = A_finds i v) (fun (u : Unit) => []) := by
  refine Met.ofW (cc := cX8_finds) (maxL := 3) (ret := (some .int)) (by decide) rfl ?_
  intro p e s m args below meth c s₁ B hml hv
  obtain ⟨rfl, hsz, hP, hK, hD0, hN⟩ := hv
  have hx := B.exec
  have hb := B.bytes
  have hr := B.returns
  have hlocks := B.notSynchronized
  have hts := atoms_spec (ws := wsX8_finds) B.pre
  have hown : s.vm.findClass RX8 = some m.cls := findClass_of_methodNamed B.named
  subst hsz
  have hD := hD0.self (sz := s.heap.size)
  generalize hAe : va_A [(mo, .inr (7, [.ref mo_st, .ref mo_at, .ref mo_isKept, .int 0, .int 2, .ref mo_draft, .int 0, .int 2, .int 0, .int (-4), .ref mo_tape, .int 0, .int 0, .int 0, .int 0, .int 0, .int 0, .int 0, .ref mo_row, .int 0, .int 0, .int 0, .int 0, .ref mo_before, .long 0, .long 0, .long 0, .ref mo_lanes, .ref mo_sizes, .ref mo_cells, .int 0, .ref mo_had])), (mo_st, .inl (k 0, 132, .inl (hst)))] s.heap.size = A at hD ⊢
  have hA : ∀ q : Nat, s.heap.size ≤ q → A q := fun q h => by rw [← hAe]; exact Or.inr h
  have hS : va_S A s.heap s.heap [] := va_S.rf
  have hl := lv_entry ([.ref mo, .int i, .int v]) (n := 3) (Nat.le_of_ble_eq_true rfl)
  rw [lg_entry_eq]
  generalize (lg_sl ([.ref mo, .int i, .int v]) ++ List.replicate (3 - (lg_sl ([.ref mo, .int i, .int v])).length) Slot.unset).toArray = ls at hl ⊢
  have hl : lv_has ls 3 [(0, .ref mo), (1, .int i), (2, .int v)] := hl
  have hP : va_P D vwCl [(mo, .inr (7, [.ref mo_st, .ref mo_at, .ref mo_isKept, .int 0, .int 2, .ref mo_draft, .int 0, .int 2, .int 0, .int (-4), .ref mo_tape, .int 0, .int 0, .int 0, .int 0, .int 0, .int 0, .int 0, .ref mo_row, .int 0, .int 0, .int 0, .int 0, .ref mo_before, .long 0, .long 0, .long 0, .ref mo_lanes, .ref mo_sizes, .ref mo_cells, .int 0, .ref mo_had])), (mo_st, .inl (k 0, 132, .inl (hst)))] s.heap := hP
  refine lv_aload_n hx hb dX8_finds_0 rfl (lv_at hl 0 rfl) ?_
  refine lv_iload_n hx hb dX8_finds_1 rfl (lv_at hl 1 rfl) ?_
  refine hs_ci (va_runV (As := [.int i]) (rest := []) ⟨hx, hb, hml, hown, hts⟩ (m_isPerson0 l D k _ mo mo_st mo_at mo_isKept mo_draft mo_tape mo_row mo_before mo_lanes mo_sizes mo_cells mo_had i) (cwV 1 hts gX8_finds_X8_isPerson rfl rfl rfl (by decide +kernel) ⟨Nat.le_of_ble_eq_true rfl, Nat.le_of_ble_eq_true rfl⟩) (hs_preV hK hN (hs_subP (w := [(mo, .inr (7, [.ref mo_st, .ref mo_at, .ref mo_isKept, .int 0, .int 2, .ref mo_draft, .int 0, .int 2, .int 0, .int (-4), .ref mo_tape, .int 0, .int 0, .int 0, .int 0, .int 0, .int 0, .int 0, .ref mo_row, .int 0, .int 0, .int 0, .int 0, .ref mo_before, .long 0, .long 0, .long 0, .ref mo_lanes, .ref mo_sizes, .ref mo_cells, .int 0, .ref mo_had])), (mo_st, .inl (k 0, 132, .inl (hst)))]) hP [0, 1] rfl) (hD.sub (ws' := [(mo, .inr (7, [.ref mo_st, .ref mo_at, .ref mo_isKept, .int 0, .int 2, .ref mo_draft, .int 0, .int 2, .int 0, .int (-4), .ref mo_tape, .int 0, .int 0, .int 0, .int 0, .int 0, .int 0, .int 0, .ref mo_row, .int 0, .int 0, .int 0, .int 0, .ref mo_before, .long 0, .long 0, .long 0, .ref mo_lanes, .ref mo_sizes, .ref mo_cells, .int 0, .ref mo_had])), (mo_st, .inl (k 0, 132, .inl (hst)))]) [0, 1] (by decide) rfl) (ci := 7) (q0 := 0) rfl rfl) rfl rfl hl.1 rfl (lv_room (Nat.le_of_ble_eq_true rfl)) dX8_finds_2 ⟨Nat.le_of_ble_eq_true rfl, Nat.le_of_ble_eq_true rfl⟩) hP hD hS hA [0, 1] [] [] rfl rfl (by decide) (by decide) [0, 1] (fun u_3 => [(mo, .inr (7, [.ref mo_st, .ref mo_at, .ref mo_isKept, .int 0, .int 2, .ref mo_draft, .int 0, .int 2, .int 0, .int (-4), .ref mo_tape, .int 0, .int 0, .int 0, .int 0, .int 0, .int 0, .int 0, .ref mo_row, .int 0, .int 0, .int 0, .int 0, .ref mo_before, .long 0, .long 0, .long 0, .ref mo_lanes, .ref mo_sizes, .ref mo_cells, .int 0, .ref mo_had])), (mo_st, .inl (k 0, 132, .inl (hst)))]) (fun _ => rfl) (by decide) (fun r_1 u_3 H locs hw_2 hP hD hS => ?_)
  have hP : va_P D vwCl [(mo, .inr (7, [.ref mo_st, .ref mo_at, .ref mo_isKept, .int 0, .int 2, .ref mo_draft, .int 0, .int 2, .int 0, .int (-4), .ref mo_tape, .int 0, .int 0, .int 0, .int 0, .int 0, .int 0, .int 0, .ref mo_row, .int 0, .int 0, .int 0, .int 0, .ref mo_before, .long 0, .long 0, .long 0, .ref mo_lanes, .ref mo_sizes, .ref mo_cells, .int 0, .ref mo_had])), (mo_st, .inl (k 0, 132, .inl (hst)))] H := hP
  have hD : va_D A [(mo, .inr (7, [.ref mo_st, .ref mo_at, .ref mo_isKept, .int 0, .int 2, .ref mo_draft, .int 0, .int 2, .int 0, .int (-4), .ref mo_tape, .int 0, .int 0, .int 0, .int 0, .int 0, .int 0, .int 0, .ref mo_row, .int 0, .int 0, .int 0, .int 0, .ref mo_before, .long 0, .long 0, .long 0, .ref mo_lanes, .ref mo_sizes, .ref mo_cells, .int 0, .ref mo_had])), (mo_st, .inl (k 0, 132, .inl (hst)))] := hD
  refine hs_topi 0 (hw_2.trans (by first | rfl | decide +kernel | rfl)) ?_
  refine lv_if_eq (tgt := 16) hx hb dX8_finds_5 (by decide) (fun c_4 => ?_) (fun c_4 => absurd c_4 (by decide))
  refine lv_iconst (v := (-1)) hx hb dX8_finds_16 (by decide) ?_
  exact hs_iret hx hb hr hlocks hK hP hD hS () [] rfl (by decide) dX8_finds_17 (by first | rfl | decide | (simp only [hsb_0, hsb_1] at c_4; simp [A_finds, c_4]; done) | (simp [A_finds, c_4]; done))
