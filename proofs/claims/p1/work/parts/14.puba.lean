set_option maxHeartbeats 4000000 in
set_option maxRecDepth 100000 in
theorem p_feed (l : Launch) (D : va_G) (k : Nat → ClassId) (sz : Nat) (h : Nat) (h_now : Nat) (h_trial : Nat) (h_images : Nat) (h_imageThere : Nat) (h_teller : Nat) (h_ranks : Nat) (h_court : Nat) (h_sheets : Nat) (ee_tape : Nat) (ee_draft : Nat) (a_bytes : Nat) (ch : Int32)  : MI l yX7_feed wsX7_feed ({ frames := 1, cells := 0, slots := 0, locals := 22 }) D k [.ref h, .int ch] [(h, .inr (6, [.ref h_now, .ref h_trial, .ref h_images, .ref h_imageThere, .ref h_teller, .ref h_ranks, .ref h_court, .ref h_sheets, .int 0, .int 0])), (h_teller, .inr (4, [.ref ee_tape, .ref ee_draft, .int 0, .int 0, .int 0])), (ee_tape, .inr (3, [.ref a_bytes, .int 0, .int 0, .int 0, .int 0, .int 0])), (a_bytes, .inl (k 0, 160, .inl (hsz)))] sz (fun (r : Int32) (u : Unit) => r = A_feed ch) (fun (u : Unit) => []) := by
  refine Met.ofW (cc := cX7_feed) (maxL := 3) (ret := (some .int)) (by decide) rfl ?_
  intro p e s m args below meth c s₁ B hml hv
  obtain ⟨rfl, hsz, hP, hK, hD0, hN⟩ := hv
  have hx := B.exec
  have hb := B.bytes
  have hr := B.returns
  have hlocks := B.notSynchronized
  have hts := atoms_spec (ws := wsX7_feed) B.pre
  have hown : s.vm.findClass RX7 = some m.cls := findClass_of_methodNamed B.named
  have hiX4 : ∀ w ∈ u_ws RX4 TX4 6, w ∈ wsX7_feed := by decide +kernel
  have hiX5 : ∀ w ∈ u_ws RX5 TX5 5, w ∈ wsX7_feed := by decide +kernel
  have hiX7 : ∀ w ∈ u_ws RX7 TX7 10, w ∈ wsX7_feed := by decide +kernel
  have fl30 := hts (.fieldLink RX7 30 "HalfScales" "teller" "LHalfScales$Teller;") (by decide +kernel)
  have fl55 := hts (.fieldLink RX7 55 "HalfScales$Teller" "tape" "LHalfScales$Tape;") (by decide +kernel)
  have fl63 := hts (.fieldLink RX7 63 "HalfScales$Tape" "length" "I") (by decide +kernel)
  have fl69 := hts (.fieldLink RX7 69 "HalfScales$Tape" "bytes" "[I") (by decide +kernel)
  subst hsz
  have hD := hD0.self (sz := s.heap.size)
  generalize hAe : va_A [(h, .inr (6, [.ref h_now, .ref h_trial, .ref h_images, .ref h_imageThere, .ref h_teller, .ref h_ranks, .ref h_court, .ref h_sheets, .int 0, .int 0])), (h_teller, .inr (4, [.ref ee_tape, .ref ee_draft, .int 0, .int 0, .int 0])), (ee_tape, .inr (3, [.ref a_bytes, .int 0, .int 0, .int 0, .int 0, .int 0])), (a_bytes, .inl (k 0, 160, .inl (hsz)))] s.heap.size = A at hD ⊢
  have hA : ∀ q : Nat, s.heap.size ≤ q → A q := fun q h => by rw [← hAe]; exact Or.inr h
  have hS : va_S A s.heap s.heap [] := va_S.rf
  have hl := lv_entry ([.ref h, .int ch]) (n := 3) (Nat.le_of_ble_eq_true rfl)
  rw [lg_entry_eq]
  generalize (lg_sl ([.ref h, .int ch]) ++ List.replicate (3 - (lg_sl ([.ref h, .int ch])).length) Slot.unset).toArray = ls at hl ⊢
  have hl : lv_has ls 3 [(0, .ref h), (1, .int ch)] := hl
  have hP : va_P D vwCl [(h, .inr (6, [.ref h_now, .ref h_trial, .ref h_images, .ref h_imageThere, .ref h_teller, .ref h_ranks, .ref h_court, .ref h_sheets, .int 0, .int 0])), (h_teller, .inr (4, [.ref ee_tape, .ref ee_draft, .int 0, .int 0, .int 0])), (ee_tape, .inr (3, [.ref a_bytes, .int 0, .int 0, .int 0, .int 0, .int 0])), (a_bytes, .inl (k 0, 160, .inl (hsz)))] s.heap := hP
  refine lv_aload_n hx hb dX7_feed_0 rfl (lv_at hl 0 rfl) ?_
  refine va_get (D := D) (ci := 6) (v := .ref h_teller) (C := RX7) (T := TX7) (N := 10) hx hb hts hiX7 hown hK hP 0 rfl rfl 4 (by decide) fl30 (fun _ h9 => h9) rfl dX7_feed_1 ?_
  refine va_get (D := D) (ci := 4) (v := .ref ee_tape) (C := RX5) (T := TX5) (N := 5) hx hb hts hiX5 hown hK hP 1 rfl rfl 0 (by decide) fl55 (fun _ h9 => h9) rfl dX7_feed_4 ?_
  refine lv_astore_n (lv' := [(2, .ref ee_tape), (0, .ref h), (1, .int ch)]) hx hb dX7_feed_7 rfl hl (by decide) rfl (fun ls hl => ?_)
  refine lv_iload_n hx hb dX7_feed_8 rfl (lv_at hl 2 rfl) ?_
  refine lv_iconst (v := 0) hx hb dX7_feed_9 (by decide) ?_
  refine lv_bipush (v := 127) hx hb dX7_feed_10 (by decide) ?_
  refine hs_pi (va_runS (As := [.int ch, .int 0, .int 127]) (rest := []) ⟨hx, hb, hml, hown, hts⟩ (c_within l D k _ ch 0 127) (va_cwS 3 hts gX7_feed_X7_within rfl rfl rfl (by decide +kernel) ⟨Nat.le_of_ble_eq_true rfl, Nat.le_of_ble_eq_true rfl⟩) (hs_preS hK hN (hs_subP (w := []) hP [] rfl) (hD.sub (ws' := []) [] (by decide) rfl)) rfl rfl hl.1 rfl (lv_room (Nat.le_of_ble_eq_true rfl)) dX7_feed_12 ⟨Nat.le_of_ble_eq_true rfl, Nat.le_of_ble_eq_true rfl⟩) hP hD hS hA (fun r_1 u_3 H locs hw_2 hP hS => ?_)
  refine hs_topi (hsb (hsin ch 0 127)) hw_2 ?_
  refine lv_if_ne (tgt := 20) hx hb dX7_feed_15 (by decide) (fun c_4 => ?_) (fun c_4 => ?_)
  · refine lv_aload_n hx hb dX7_feed_20 rfl (lv_at hl 0 rfl) ?_
    refine va_get (D := D) (ci := 3) (v := .int 0) (C := RX4) (T := TX4) (N := 6) hx hb hts hiX4 hown hK hP 2 rfl rfl 1 (by decide) fl63 (fun _ h9 => h9) rfl dX7_feed_21 ?_
    refine lv_sipush (v := 160) hx hb dX7_feed_24 (by decide) ?_
    refine lv_icmp_lt (tgt := 33) hx hb dX7_feed_27 (by decide) (fun c_5 => ?_) (fun c_5 => absurd c_5 (by decide))
    refine lv_aload_n hx hb dX7_feed_33 rfl (lv_at hl 0 rfl) ?_
    refine va_get (D := D) (ci := 3) (v := .ref a_bytes) (C := RX4) (T := TX4) (N := 6) hx hb hts hiX4 hown hK hP 2 rfl rfl 0 (by decide) fl69 (fun _ h9 => h9) rfl dX7_feed_34 ?_
    refine lv_aload_n hx hb dX7_feed_37 rfl (lv_at hl 0 rfl) ?_
    refine va_get (D := D) (ci := 3) (v := .int 0) (C := RX4) (T := TX4) (N := 6) hx hb hts hiX4 hown hK hP 2 rfl rfl 1 (by decide) fl63 (fun _ h9 => h9) rfl dX7_feed_38 ?_
    refine lv_iload_n hx hb dX7_feed_41 rfl (lv_at hl 2 rfl) ?_
    refine va_iast hx hb hK hP hD hS 3 0 rfl rfl (hs_in (by decide)) dX7_feed_42 (fun H locs hP hD hS => ?_)
    have hP : va_P D vwCl [(h, .inr (6, [.ref h_now, .ref h_trial, .ref h_images, .ref h_imageThere, .ref h_teller, .ref h_ranks, .ref h_court, .ref h_sheets, .int 0, .int 0])), (h_teller, .inr (4, [.ref ee_tape, .ref ee_draft, .int 0, .int 0, .int 0])), (ee_tape, .inr (3, [.ref a_bytes, .int 0, .int 0, .int 0, .int 0, .int 0])), (a_bytes, .inl (k 0, 160, .inl (upd hsz 0 ch)))] H := hP
    have hD : va_D A [(h, .inr (6, [.ref h_now, .ref h_trial, .ref h_images, .ref h_imageThere, .ref h_teller, .ref h_ranks, .ref h_court, .ref h_sheets, .int 0, .int 0])), (h_teller, .inr (4, [.ref ee_tape, .ref ee_draft, .int 0, .int 0, .int 0])), (ee_tape, .inr (3, [.ref a_bytes, .int 0, .int 0, .int 0, .int 0, .int 0])), (a_bytes, .inl (k 0, 160, .inl (upd hsz 0 ch)))] := hD
    refine lv_aload_n hx hb dX7_feed_43 rfl (lv_at hl 0 rfl) ?_
    refine lv_dup hx hb dX7_feed_44 rfl ?_
    refine va_get (D := D) (ci := 3) (v := .int 0) (C := RX4) (T := TX4) (N := 6) hx hb hts hiX4 hown hK hP 2 rfl rfl 1 (by decide) fl63 (fun _ h9 => h9) rfl dX7_feed_45 ?_
    refine lv_iconst (v := 1) hx hb dX7_feed_48 (by decide) ?_
    refine lv_iadd hx hb dX7_feed_49 ?_
    refine hs_topi 1 (by first | rfl | decide +kernel) ?_
    refine va_put (D := D) (ci := 3) (v := .int 1) (ty := .int) (C := RX4) (T := TX4) (N := 6) hx hb hts hiX4 tyX4 tyX4_ok nmX4 hown hK hP hD hS 2 rfl rfl 1 (by decide) fl63 (fun _ h9 => h9) rfl (by decide +kernel) rfl rfl (Nat.le_of_ble_eq_true rfl) dX7_feed_50 (fun H locs hP hD hS => ?_)
    have hP : va_P D vwCl [(h, .inr (6, [.ref h_now, .ref h_trial, .ref h_images, .ref h_imageThere, .ref h_teller, .ref h_ranks, .ref h_court, .ref h_sheets, .int 0, .int 0])), (h_teller, .inr (4, [.ref ee_tape, .ref ee_draft, .int 0, .int 0, .int 0])), (ee_tape, .inr (3, [.ref a_bytes, .int 1, .int 0, .int 0, .int 0, .int 0])), (a_bytes, .inl (k 0, 160, .inl (upd hsz 0 ch)))] H := hP
    have hD : va_D A [(h, .inr (6, [.ref h_now, .ref h_trial, .ref h_images, .ref h_imageThere, .ref h_teller, .ref h_ranks, .ref h_court, .ref h_sheets, .int 0, .int 0])), (h_teller, .inr (4, [.ref ee_tape, .ref ee_draft, .int 0, .int 0, .int 0])), (ee_tape, .inr (3, [.ref a_bytes, .int 1, .int 0, .int 0, .int 0, .int 0])), (a_bytes, .inl (k 0, 160, .inl (upd hsz 0 ch)))] := hD
    refine lv_aload_n hx hb dX7_feed_53 rfl (lv_at hl 0 rfl) ?_
    refine va_get (D := D) (ci := 3) (v := .int 1) (C := RX4) (T := TX4) (N := 6) hx hb hts hiX4 hown hK hP 2 rfl rfl 1 (by decide) fl63 (fun _ h9 => h9) rfl dX7_feed_54 ?_
    exact hs_iret hx hb hr hlocks hK hP hD hS () [] rfl (by decide) dX7_feed_57 (by first | rfl | decide | (simp only [hsb_0, hsb_1] at c_4 c_5; simp [A_feed, c_4, c_5]; done) | (simp [A_feed, c_4, c_5]; done))
  · refine lv_iconst (v := (-1)) hx hb dX7_feed_18 (by decide) ?_
    exact hs_iret hx hb hr hlocks hK hP hD hS () [] rfl (by decide) dX7_feed_19 (by first | rfl | decide | (simp only [hsb_0, hsb_1] at c_4; simp [A_feed, c_4]; done) | (simp [A_feed, c_4]; done))

set_option maxHeartbeats 4000000 in
set_option maxRecDepth 100000 in
theorem p_end (l : Launch) (D : va_G) (k : Nat → ClassId) (sz : Nat) (h : Nat) (h_now : Nat) (h_trial : Nat) (h_images : Nat) (h_imageThere : Nat) (h_teller : Nat) (h_ranks : Nat) (h_court : Nat) (h_sheets : Nat) (ee_tape : Nat) (ee_draft : Nat) (a_bytes : Nat) (n : Int32)  : MI l yX7_end wsX7_end ({ frames := 1, cells := 0, slots := 0, locals := 22 }) D k [.ref h, .int n] [(h, .inr (6, [.ref h_now, .ref h_trial, .ref h_images, .ref h_imageThere, .ref h_teller, .ref h_ranks, .ref h_court, .ref h_sheets, .int 0, .int 0])), (h_teller, .inr (4, [.ref ee_tape, .ref ee_draft, .int 0, .int 0, .int 0])), (ee_tape, .inr (3, [.ref a_bytes, .int 0, .int 0, .int 0, .int 0, .int 0]))] sz (fun (r : Int32) (u : Unit) => r = A_end n) (fun (u : Unit) => []) := by
  refine Met.ofW (cc := cX7_end) (maxL := 4) (ret := (some .int)) (by decide) rfl ?_
  intro p e s m args below meth c s₁ B hml hv
  obtain ⟨rfl, hsz, hP, hK, hD0, hN⟩ := hv
  have hx := B.exec
  have hb := B.bytes
  have hr := B.returns
  have hlocks := B.notSynchronized
  have hts := atoms_spec (ws := wsX7_end) B.pre
  have hown : s.vm.findClass RX7 = some m.cls := findClass_of_methodNamed B.named
  have hiX4 : ∀ w ∈ u_ws RX4 TX4 6, w ∈ wsX7_end := by decide +kernel
  have hiX5 : ∀ w ∈ u_ws RX5 TX5 5, w ∈ wsX7_end := by decide +kernel
  have hiX7 : ∀ w ∈ u_ws RX7 TX7 10, w ∈ wsX7_end := by decide +kernel
  have fl30 := hts (.fieldLink RX7 30 "HalfScales" "teller" "LHalfScales$Teller;") (by decide +kernel)
  have fl55 := hts (.fieldLink RX7 55 "HalfScales$Teller" "tape" "LHalfScales$Tape;") (by decide +kernel)
  have fl63 := hts (.fieldLink RX7 63 "HalfScales$Tape" "length" "I") (by decide +kernel)
  subst hsz
  have hD := hD0.self (sz := s.heap.size)
  generalize hAe : va_A [(h, .inr (6, [.ref h_now, .ref h_trial, .ref h_images, .ref h_imageThere, .ref h_teller, .ref h_ranks, .ref h_court, .ref h_sheets, .int 0, .int 0])), (h_teller, .inr (4, [.ref ee_tape, .ref ee_draft, .int 0, .int 0, .int 0])), (ee_tape, .inr (3, [.ref a_bytes, .int 0, .int 0, .int 0, .int 0, .int 0]))] s.heap.size = A at hD ⊢
  have hA : ∀ q : Nat, s.heap.size ≤ q → A q := fun q h => by rw [← hAe]; exact Or.inr h
  have hS : va_S A s.heap s.heap [] := va_S.rf
  have hl := lv_entry ([.ref h, .int n]) (n := 4) (Nat.le_of_ble_eq_true rfl)
  rw [lg_entry_eq]
  generalize (lg_sl ([.ref h, .int n]) ++ List.replicate (4 - (lg_sl ([.ref h, .int n])).length) Slot.unset).toArray = ls at hl ⊢
  have hl : lv_has ls 4 [(0, .ref h), (1, .int n)] := hl
  have hP : va_P D vwCl [(h, .inr (6, [.ref h_now, .ref h_trial, .ref h_images, .ref h_imageThere, .ref h_teller, .ref h_ranks, .ref h_court, .ref h_sheets, .int 0, .int 0])), (h_teller, .inr (4, [.ref ee_tape, .ref ee_draft, .int 0, .int 0, .int 0])), (ee_tape, .inr (3, [.ref a_bytes, .int 0, .int 0, .int 0, .int 0, .int 0]))] s.heap := hP
  refine lv_aload_n hx hb dX7_end_0 rfl (lv_at hl 0 rfl) ?_
  refine va_get (D := D) (ci := 6) (v := .ref h_teller) (C := RX7) (T := TX7) (N := 10) hx hb hts hiX7 hown hK hP 0 rfl rfl 4 (by decide) fl30 (fun _ h9 => h9) rfl dX7_end_1 ?_
  refine va_get (D := D) (ci := 4) (v := .ref ee_tape) (C := RX5) (T := TX5) (N := 5) hx hb hts hiX5 hown hK hP 1 rfl rfl 0 (by decide) fl55 (fun _ h9 => h9) rfl dX7_end_4 ?_
  refine lv_astore_n (lv' := [(2, .ref ee_tape), (0, .ref h), (1, .int n)]) hx hb dX7_end_7 rfl hl (by decide) rfl (fun ls hl => ?_)
  refine lv_iload_n hx hb dX7_end_8 rfl (lv_at hl 2 rfl) ?_
  refine lv_iconst (v := 0) hx hb dX7_end_9 (by decide) ?_
  refine lv_aload_n hx hb dX7_end_10 rfl (lv_at hl 0 rfl) ?_
  refine va_get (D := D) (ci := 3) (v := .int 0) (C := RX4) (T := TX4) (N := 6) hx hb hts hiX4 hown hK hP 2 rfl rfl 1 (by decide) fl63 (fun _ h9 => h9) rfl dX7_end_11 ?_
  refine hs_pi (va_runS (As := [.int n, .int 0, .int 0]) (rest := []) ⟨hx, hb, hml, hown, hts⟩ (c_within l D k _ n 0 0) (va_cwS 3 hts gX7_end_X7_within rfl rfl rfl (by decide +kernel) ⟨Nat.le_of_ble_eq_true rfl, Nat.le_of_ble_eq_true rfl⟩) (hs_preS hK hN (hs_subP (w := []) hP [] rfl) (hD.sub (ws' := []) [] (by decide) rfl)) rfl rfl hl.1 rfl (lv_room (Nat.le_of_ble_eq_true rfl)) dX7_end_14 ⟨Nat.le_of_ble_eq_true rfl, Nat.le_of_ble_eq_true rfl⟩) hP hD hS hA (fun r_1 u_3 H locs hw_2 hP hS => ?_)
  refine hs_topi (hsb (hsin n 0 0)) hw_2 ?_
  refine lv_if_ne (tgt := 22) hx hb dX7_end_17 (by decide) (fun c_4 => ?_) (fun c_4 => ?_)
  · obtain rfl : n = 0 := hs_one (hs_nb c_4)
    refine lv_aload_n hx hb dX7_end_22 rfl (lv_at hl 0 rfl) ?_
    refine va_get (D := D) (ci := 3) (v := .int 0) (C := RX4) (T := TX4) (N := 6) hx hb hts hiX4 hown hK hP 2 rfl rfl 1 (by decide) fl63 (fun _ h9 => h9) rfl dX7_end_23 ?_
    refine lv_istore_n (lv' := [(3, .int 0), (2, .ref ee_tape), (0, .ref h), (1, .int 0)]) hx hb dX7_end_26 rfl hl (by decide) rfl (fun ls hl => ?_)
    refine lv_aload_n hx hb dX7_end_27 rfl (lv_at hl 1 rfl) ?_
    refine lv_iload_n hx hb dX7_end_28 rfl (lv_at hl 3 rfl) ?_
    refine va_put (D := D) (ci := 3) (v := .int 0) (ty := .int) (C := RX4) (T := TX4) (N := 6) hx hb hts hiX4 tyX4 tyX4_ok nmX4 hown hK hP hD hS 2 rfl rfl 1 (by decide) fl63 (fun _ h9 => h9) rfl (by decide +kernel) rfl rfl (Nat.le_of_ble_eq_true rfl) dX7_end_29 (fun H locs hP hD hS => ?_)
    have hP : va_P D vwCl [(h, .inr (6, [.ref h_now, .ref h_trial, .ref h_images, .ref h_imageThere, .ref h_teller, .ref h_ranks, .ref h_court, .ref h_sheets, .int 0, .int 0])), (h_teller, .inr (4, [.ref ee_tape, .ref ee_draft, .int 0, .int 0, .int 0])), (ee_tape, .inr (3, [.ref a_bytes, .int 0, .int 0, .int 0, .int 0, .int 0]))] H := hP
    have hD : va_D A [(h, .inr (6, [.ref h_now, .ref h_trial, .ref h_images, .ref h_imageThere, .ref h_teller, .ref h_ranks, .ref h_court, .ref h_sheets, .int 0, .int 0])), (h_teller, .inr (4, [.ref ee_tape, .ref ee_draft, .int 0, .int 0, .int 0])), (ee_tape, .inr (3, [.ref a_bytes, .int 0, .int 0, .int 0, .int 0, .int 0]))] := hD
    refine lv_iload_n hx hb dX7_end_32 rfl (lv_at hl 0 rfl) ?_
    exact hs_iret hx hb hr hlocks hK hP hD hS () [] rfl (by decide) dX7_end_33 (by first | rfl | decide | (simp only [hsb_0, hsb_1] at c_4; simp [A_end, c_4]; done) | (simp [A_end, c_4]; done))
  · refine lv_iconst (v := (-1)) hx hb dX7_end_20 (by decide) ?_
    exact hs_iret hx hb hr hlocks hK hP hD hS () [] rfl (by decide) dX7_end_21 (by first | rfl | decide | (simp only [hsb_0, hsb_1] at c_4; simp [A_end, c_4]; done) | (simp [A_end, c_4]; done))

set_option maxHeartbeats 4000000 in
set_option maxRecDepth 100000 in
theorem p_fault (l : Launch) (D : va_G) (k : Nat → ClassId) (sz : Nat) (h : Nat) (h_now : Nat) (h_trial : Nat) (h_images : Nat) (h_imageThere : Nat) (h_teller : Nat) (h_ranks : Nat) (h_court : Nat) (h_sheets : Nat)  : MI l yX7_fault wsX7_fault ({ frames := 0, cells := 0, slots := 0, locals := 0 }) D k [.ref h] [(h, .inr (6, [.ref h_now, .ref h_trial, .ref h_images, .ref h_imageThere, .ref h_teller, .ref h_ranks, .ref h_court, .ref h_sheets, .int 0, .int 0]))] sz (fun (r : Int32) (u : Unit) => r = A_fault) (fun (u : Unit) => []) := by
  refine Met.ofW (cc := cX7_fault) (maxL := 1) (ret := (some .int)) (by decide) rfl ?_
  intro p e s m args below meth c s₁ B hml hv
  obtain ⟨rfl, hsz, hP, hK, hD0, hN⟩ := hv
  have hx := B.exec
  have hb := B.bytes
  have hr := B.returns
  have hlocks := B.notSynchronized
  have hts := atoms_spec (ws := wsX7_fault) B.pre
  have hown : s.vm.findClass RX7 = some m.cls := findClass_of_methodNamed B.named
  have hiX7 : ∀ w ∈ u_ws RX7 TX7 10, w ∈ wsX7_fault := by decide +kernel
  have fl80 := hts (.fieldLink RX7 80 "HalfScales" "latestFault" "I") (by decide +kernel)
  subst hsz
  have hD := hD0.self (sz := s.heap.size)
  generalize hAe : va_A [(h, .inr (6, [.ref h_now, .ref h_trial, .ref h_images, .ref h_imageThere, .ref h_teller, .ref h_ranks, .ref h_court, .ref h_sheets, .int 0, .int 0]))] s.heap.size = A at hD ⊢
  have hA : ∀ q : Nat, s.heap.size ≤ q → A q := fun q h => by rw [← hAe]; exact Or.inr h
  have hS : va_S A s.heap s.heap [] := va_S.rf
  have hl := lv_entry ([.ref h]) (n := 1) (Nat.le_of_ble_eq_true rfl)
  rw [lg_entry_eq]
  generalize (lg_sl ([.ref h]) ++ List.replicate (1 - (lg_sl ([.ref h])).length) Slot.unset).toArray = ls at hl ⊢
  have hl : lv_has ls 1 [(0, .ref h)] := hl
  have hP : va_P D vwCl [(h, .inr (6, [.ref h_now, .ref h_trial, .ref h_images, .ref h_imageThere, .ref h_teller, .ref h_ranks, .ref h_court, .ref h_sheets, .int 0, .int 0]))] s.heap := hP
  refine lv_aload_n hx hb dX7_fault_0 rfl (lv_at hl 0 rfl) ?_
  refine va_get (D := D) (ci := 6) (v := .int 0) (C := RX7) (T := TX7) (N := 10) hx hb hts hiX7 hown hK hP 0 rfl rfl 8 (by decide) fl80 (fun _ h9 => h9) rfl dX7_fault_1 ?_
  exact hs_iret hx hb hr hlocks hK hP hD hS () [] rfl (by decide) dX7_fault_4 (by first | rfl | decide | (simp [A_fault]; done))

set_option maxHeartbeats 4000000 in
set_option maxRecDepth 100000 in
theorem p_rule (l : Launch) (D : va_G) (k : Nat → ClassId) (sz : Nat) (h : Nat) (h_now : Nat) (h_trial : Nat) (h_images : Nat) (h_imageThere : Nat) (h_teller : Nat) (h_ranks : Nat) (h_court : Nat) (h_sheets : Nat) (n_weights : Nat) (n_kindOf : Nat) (n_light : Nat) (n_heavy : Nat) (n_seenBy : Nat) (n_seenCut : Nat) (n_seenFound : Nat) (what : Int32)  : MI l yX7_rule wsX7_rule ({ frames := 1, cells := 0, slots := 0, locals := 22 }) D k [.ref h, .int what] [(h, .inr (6, [.ref h_now, .ref h_trial, .ref h_images, .ref h_imageThere, .ref h_teller, .ref h_ranks, .ref h_court, .ref h_sheets, .int 0, .int 0])), (h_now, .inr (5, [.ref n_weights, .ref n_kindOf, .ref n_light, .ref n_heavy, .ref n_seenBy, .ref n_seenCut, .ref n_seenFound, .int 2, .int 0, .int 0, .int 0, .int 0, .int 2, .int 0, .int 0])), (n_weights, .inl (k 0, 8, .inl (hsw)))] sz (fun (r : Int32) (u : Unit) => r = A_rule what) (fun (u : Unit) => []) := by
  refine Met.ofW (cc := cX7_rule) (maxL := 2) (ret := (some .int)) (by decide) rfl ?_
  intro p e s m args below meth c s₁ B hml hv
  obtain ⟨rfl, hsz, hP, hK, hD0, hN⟩ := hv
  have hx := B.exec
  have hb := B.bytes
  have hr := B.returns
  have hlocks := B.notSynchronized
  have hts := atoms_spec (ws := wsX7_rule) B.pre
  have hown : s.vm.findClass RX7 = some m.cls := findClass_of_methodNamed B.named
  have hiX6 : ∀ w ∈ u_ws RX6 TX6 15, w ∈ wsX7_rule := by decide +kernel
  have hiX7 : ∀ w ∈ u_ws RX7 TX7 10, w ∈ wsX7_rule := by decide +kernel
  have fl10 := hts (.fieldLink RX7 10 "HalfScales" "now" "LHalfScales$Thing;") (by decide +kernel)
  have fl93 := hts (.fieldLink RX7 93 "HalfScales$Thing" "cellCount" "I") (by decide +kernel)
  have fl96 := hts (.fieldLink RX7 96 "HalfScales$Thing" "peopleCount" "I") (by decide +kernel)
  have fl99 := hts (.fieldLink RX7 99 "HalfScales$Thing" "slip" "I") (by decide +kernel)
  have fl102 := hts (.fieldLink RX7 102 "HalfScales$Thing" "fine" "I") (by decide +kernel)
  have fl105 := hts (.fieldLink RX7 105 "HalfScales$Thing" "appealCount" "I") (by decide +kernel)
  have fl108 := hts (.fieldLink RX7 108 "HalfScales$Thing" "halfCount" "I") (by decide +kernel)
  have fl111 := hts (.fieldLink RX7 111 "HalfScales$Thing" "pairCount" "I") (by decide +kernel)
  subst hsz
  have hD := hD0.self (sz := s.heap.size)
  generalize hAe : va_A [(h, .inr (6, [.ref h_now, .ref h_trial, .ref h_images, .ref h_imageThere, .ref h_teller, .ref h_ranks, .ref h_court, .ref h_sheets, .int 0, .int 0])), (h_now, .inr (5, [.ref n_weights, .ref n_kindOf, .ref n_light, .ref n_heavy, .ref n_seenBy, .ref n_seenCut, .ref n_seenFound, .int 2, .int 0, .int 0, .int 0, .int 0, .int 2, .int 0, .int 0])), (n_weights, .inl (k 0, 8, .inl (hsw)))] s.heap.size = A at hD ⊢
  have hA : ∀ q : Nat, s.heap.size ≤ q → A q := fun q h => by rw [← hAe]; exact Or.inr h
  have hS : va_S A s.heap s.heap [] := va_S.rf
  have hl := lv_entry ([.ref h, .int what]) (n := 2) (Nat.le_of_ble_eq_true rfl)
  rw [lg_entry_eq]
  generalize (lg_sl ([.ref h, .int what]) ++ List.replicate (2 - (lg_sl ([.ref h, .int what])).length) Slot.unset).toArray = ls at hl ⊢
  have hl : lv_has ls 2 [(0, .ref h), (1, .int what)] := hl
  have hP : va_P D vwCl [(h, .inr (6, [.ref h_now, .ref h_trial, .ref h_images, .ref h_imageThere, .ref h_teller, .ref h_ranks, .ref h_court, .ref h_sheets, .int 0, .int 0])), (h_now, .inr (5, [.ref n_weights, .ref n_kindOf, .ref n_light, .ref n_heavy, .ref n_seenBy, .ref n_seenCut, .ref n_seenFound, .int 2, .int 0, .int 0, .int 0, .int 0, .int 2, .int 0, .int 0])), (n_weights, .inl (k 0, 8, .inl (hsw)))] s.heap := hP
  refine lv_iload_n hx hb dX7_rule_0 rfl (lv_at hl 1 rfl) ?_
  by_cases sw_1 : what = 0
  · subst sw_1
    refine lv_tableIn (off := 47) (tgt := 48) hx hb dX7_rule_1 (by decide) (by decide) (by rfl) (by decide) ?_
    refine lv_aload_n hx hb dX7_rule_48 rfl (lv_at hl 0 rfl) ?_
    refine va_get (D := D) (ci := 6) (v := .ref h_now) (C := RX7) (T := TX7) (N := 10) hx hb hts hiX7 hown hK hP 0 rfl rfl 0 (by decide) fl10 (fun _ h9 => h9) rfl dX7_rule_49 ?_
    refine va_get (D := D) (ci := 5) (v := .int 2) (C := RX6) (T := TX6) (N := 15) hx hb hts hiX6 hown hK hP 1 rfl rfl 7 (by decide) fl93 (fun _ h9 => h9) rfl dX7_rule_52 ?_
    exact hs_iret hx hb hr hlocks hK hP hD hS () [] rfl (by decide) dX7_rule_55 (by first | rfl | decide | (simp [A_rule]; done))
  by_cases sw_2 : what = 1
  · subst sw_2
    refine lv_tableIn (off := 55) (tgt := 56) hx hb dX7_rule_1 (by decide) (by decide) (by rfl) (by decide) ?_
    refine lv_aload_n hx hb dX7_rule_56 rfl (lv_at hl 0 rfl) ?_
    refine va_get (D := D) (ci := 6) (v := .ref h_now) (C := RX7) (T := TX7) (N := 10) hx hb hts hiX7 hown hK hP 0 rfl rfl 0 (by decide) fl10 (fun _ h9 => h9) rfl dX7_rule_57 ?_
    refine va_get (D := D) (ci := 5) (v := .int 0) (C := RX6) (T := TX6) (N := 15) hx hb hts hiX6 hown hK hP 1 rfl rfl 8 (by decide) fl96 (fun _ h9 => h9) rfl dX7_rule_60 ?_
    exact hs_iret hx hb hr hlocks hK hP hD hS () [] rfl (by decide) dX7_rule_63 (by first | rfl | decide | (simp [A_rule]; done))
  by_cases sw_3 : what = 2
  · subst sw_3
    refine lv_tableIn (off := 63) (tgt := 64) hx hb dX7_rule_1 (by decide) (by decide) (by rfl) (by decide) ?_
    refine lv_aload_n hx hb dX7_rule_64 rfl (lv_at hl 0 rfl) ?_
    refine va_get (D := D) (ci := 6) (v := .ref h_now) (C := RX7) (T := TX7) (N := 10) hx hb hts hiX7 hown hK hP 0 rfl rfl 0 (by decide) fl10 (fun _ h9 => h9) rfl dX7_rule_65 ?_
    refine va_get (D := D) (ci := 5) (v := .int 0) (C := RX6) (T := TX6) (N := 15) hx hb hts hiX6 hown hK hP 1 rfl rfl 9 (by decide) fl99 (fun _ h9 => h9) rfl dX7_rule_68 ?_
    exact hs_iret hx hb hr hlocks hK hP hD hS () [] rfl (by decide) dX7_rule_71 (by first | rfl | decide | (simp [A_rule]; done))
  by_cases sw_4 : what = 3
  · subst sw_4
    refine lv_tableIn (off := 71) (tgt := 72) hx hb dX7_rule_1 (by decide) (by decide) (by rfl) (by decide) ?_
    refine lv_aload_n hx hb dX7_rule_72 rfl (lv_at hl 0 rfl) ?_
    refine va_get (D := D) (ci := 6) (v := .ref h_now) (C := RX7) (T := TX7) (N := 10) hx hb hts hiX7 hown hK hP 0 rfl rfl 0 (by decide) fl10 (fun _ h9 => h9) rfl dX7_rule_73 ?_
    refine va_get (D := D) (ci := 5) (v := .int 0) (C := RX6) (T := TX6) (N := 15) hx hb hts hiX6 hown hK hP 1 rfl rfl 10 (by decide) fl102 (fun _ h9 => h9) rfl dX7_rule_76 ?_
    exact hs_iret hx hb hr hlocks hK hP hD hS () [] rfl (by decide) dX7_rule_79 (by first | rfl | decide | (simp [A_rule]; done))
  by_cases sw_5 : what = 4
  · subst sw_5
    refine lv_tableIn (off := 79) (tgt := 80) hx hb dX7_rule_1 (by decide) (by decide) (by rfl) (by decide) ?_
    refine lv_aload_n hx hb dX7_rule_80 rfl (lv_at hl 0 rfl) ?_
    refine va_get (D := D) (ci := 6) (v := .ref h_now) (C := RX7) (T := TX7) (N := 10) hx hb hts hiX7 hown hK hP 0 rfl rfl 0 (by decide) fl10 (fun _ h9 => h9) rfl dX7_rule_81 ?_
    refine va_get (D := D) (ci := 5) (v := .int 0) (C := RX6) (T := TX6) (N := 15) hx hb hts hiX6 hown hK hP 1 rfl rfl 11 (by decide) fl105 (fun _ h9 => h9) rfl dX7_rule_84 ?_
    exact hs_iret hx hb hr hlocks hK hP hD hS () [] rfl (by decide) dX7_rule_87 (by first | rfl | decide | (simp [A_rule]; done))
  by_cases sw_6 : what = 5
  · subst sw_6
    refine lv_tableIn (off := 87) (tgt := 88) hx hb dX7_rule_1 (by decide) (by decide) (by rfl) (by decide) ?_
    refine lv_aload_n hx hb dX7_rule_88 rfl (lv_at hl 0 rfl) ?_
    refine va_get (D := D) (ci := 6) (v := .ref h_now) (C := RX7) (T := TX7) (N := 10) hx hb hts hiX7 hown hK hP 0 rfl rfl 0 (by decide) fl10 (fun _ h9 => h9) rfl dX7_rule_89 ?_
    refine va_get (D := D) (ci := 5) (v := .int 2) (C := RX6) (T := TX6) (N := 15) hx hb hts hiX6 hown hK hP 1 rfl rfl 12 (by decide) fl108 (fun _ h9 => h9) rfl dX7_rule_92 ?_
    exact hs_iret hx hb hr hlocks hK hP hD hS () [] rfl (by decide) dX7_rule_95 (by first | rfl | decide | (simp [A_rule]; done))
  by_cases sw_7 : what = 6
  · subst sw_7
    refine lv_tableIn (off := 95) (tgt := 96) hx hb dX7_rule_1 (by decide) (by decide) (by rfl) (by decide) ?_
    refine lv_aload_n hx hb dX7_rule_96 rfl (lv_at hl 0 rfl) ?_
    refine va_get (D := D) (ci := 6) (v := .ref h_now) (C := RX7) (T := TX7) (N := 10) hx hb hts hiX7 hown hK hP 0 rfl rfl 0 (by decide) fl10 (fun _ h9 => h9) rfl dX7_rule_97 ?_
    refine va_get (D := D) (ci := 5) (v := .int 0) (C := RX6) (T := TX6) (N := 15) hx hb hts hiX6 hown hK hP 1 rfl rfl 13 (by decide) fl111 (fun _ h9 => h9) rfl dX7_rule_100 ?_
    exact hs_iret hx hb hr hlocks hK hP hD hS () [] rfl (by decide) dX7_rule_103 (by first | rfl | decide | (simp [A_rule]; done))
  by_cases sw_8 : what = 7
  · subst sw_8
    refine lv_tableIn (off := 103) (tgt := 104) hx hb dX7_rule_1 (by decide) (by decide) (by rfl) (by decide) ?_
    refine lv_aload_n hx hb dX7_rule_104 rfl (lv_at hl 0 rfl) ?_
    refine va_get (D := D) (ci := 6) (v := .ref h_now) (C := RX7) (T := TX7) (N := 10) hx hb hts hiX7 hown hK hP 0 rfl rfl 0 (by decide) fl10 (fun _ h9 => h9) rfl dX7_rule_105 ?_
    refine hs_ci (va_runV (As := []) (rest := []) ⟨hx, hb, hml, hown, hts⟩ (c_allWeights0 l D k _ h_now n_weights n_kindOf n_light n_heavy n_seenBy n_seenCut n_seenFound) (cwV 0 hts gX7_rule_X6_allWeights rfl rfl rfl (by decide +kernel) ⟨Nat.le_of_ble_eq_true rfl, Nat.le_of_ble_eq_true rfl⟩) (hs_preV hK hN (hs_subP (w := [(h_now, .inr (5, [.ref n_weights, .ref n_kindOf, .ref n_light, .ref n_heavy, .ref n_seenBy, .ref n_seenCut, .ref n_seenFound, .int 2, .int 0, .int 0, .int 0, .int 0, .int 2, .int 0, .int 0])), (n_weights, .inl (k 0, 8, .inl (hsw)))]) hP [1, 2] rfl) (hD.sub (ws' := [(h_now, .inr (5, [.ref n_weights, .ref n_kindOf, .ref n_light, .ref n_heavy, .ref n_seenBy, .ref n_seenCut, .ref n_seenFound, .int 2, .int 0, .int 0, .int 0, .int 0, .int 2, .int 0, .int 0])), (n_weights, .inl (k 0, 8, .inl (hsw)))]) [1, 2] (by decide) rfl) (ci := 5) (q0 := 0) rfl rfl) rfl rfl hl.1 rfl (lv_room (Nat.le_of_ble_eq_true rfl)) dX7_rule_108 ⟨Nat.le_of_ble_eq_true rfl, Nat.le_of_ble_eq_true rfl⟩) hP hD hS hA [1, 2] [0] [(h, .inr (6, [.ref h_now, .ref h_trial, .ref h_images, .ref h_imageThere, .ref h_teller, .ref h_ranks, .ref h_court, .ref h_sheets, .int 0, .int 0]))] rfl rfl (by decide) (by decide) [0, 1, 2] (fun u_11 => [(h, .inr (6, [.ref h_now, .ref h_trial, .ref h_images, .ref h_imageThere, .ref h_teller, .ref h_ranks, .ref h_court, .ref h_sheets, .int 0, .int 0])), (h_now, .inr (5, [.ref n_weights, .ref n_kindOf, .ref n_light, .ref n_heavy, .ref n_seenBy, .ref n_seenCut, .ref n_seenFound, .int 2, .int 0, .int 0, .int 0, .int 0, .int 2, .int 0, .int 0])), (n_weights, .inl (k 0, 8, .inl (hsw)))]) (fun _ => rfl) (by decide) (fun r_9 u_11 H locs hw_10 hP hD hS => ?_)
    have hP : va_P D vwCl [(h, .inr (6, [.ref h_now, .ref h_trial, .ref h_images, .ref h_imageThere, .ref h_teller, .ref h_ranks, .ref h_court, .ref h_sheets, .int 0, .int 0])), (h_now, .inr (5, [.ref n_weights, .ref n_kindOf, .ref n_light, .ref n_heavy, .ref n_seenBy, .ref n_seenCut, .ref n_seenFound, .int 2, .int 0, .int 0, .int 0, .int 0, .int 2, .int 0, .int 0])), (n_weights, .inl (k 0, 8, .inl (hsw)))] H := hP
    have hD : va_D A [(h, .inr (6, [.ref h_now, .ref h_trial, .ref h_images, .ref h_imageThere, .ref h_teller, .ref h_ranks, .ref h_court, .ref h_sheets, .int 0, .int 0])), (h_now, .inr (5, [.ref n_weights, .ref n_kindOf, .ref n_light, .ref n_heavy, .ref n_seenBy, .ref n_seenCut, .ref n_seenFound, .int 2, .int 0, .int 0, .int 0, .int 0, .int 2, .int 0, .int 0])), (n_weights, .inl (k 0, 8, .inl (hsw)))] := hD
    refine hs_topi 2 (hw_10.trans (by first | rfl | decide +kernel | rfl)) ?_
    exact hs_iret hx hb hr hlocks hK hP hD hS () [] rfl (by decide) dX7_rule_111 (by first | rfl | decide | (simp [A_rule]; done))
  refine lv_tableOut (tgt := 112) hx hb dX7_rule_1 (by have z0 := lv_neT sw_1 (a := 0) rfl; have z1 := lv_neT sw_2 (a := 1) rfl; have z2 := lv_neT sw_3 (a := 2) rfl; have z3 := lv_neT sw_4 (a := 3) rfl; have z4 := lv_neT sw_5 (a := 4) rfl; have z5 := lv_neT sw_6 (a := 5) rfl; have z6 := lv_neT sw_7 (a := 6) rfl; have z7 := lv_neT sw_8 (a := 7) rfl; omega) (by decide) ?_
  refine lv_iconst (v := (-1)) hx hb dX7_rule_112 (by decide) ?_
  exact hs_iret hx hb hr hlocks hK hP hD hS () [] rfl (by decide) dX7_rule_113 (by first | rfl | decide | (simp only [hsb_0, hsb_1] at sw_1 sw_2 sw_3 sw_4 sw_5 sw_6 sw_7 sw_8; simp [A_rule, sw_1, sw_2, sw_3, sw_4, sw_5, sw_6, sw_7, sw_8]; done) | (simp [A_rule, sw_1, sw_2, sw_3, sw_4, sw_5, sw_6, sw_7, sw_8]; done))

set_option maxHeartbeats 4000000 in
set_option maxRecDepth 100000 in
theorem p_cell (l : Launch) (D : va_G) (k : Nat → ClassId) (sz : Nat) (h : Nat) (h_now : Nat) (h_trial : Nat) (h_images : Nat) (h_imageThere : Nat) (h_teller : Nat) (h_ranks : Nat) (h_court : Nat) (h_sheets : Nat) (n_weights : Nat) (n_kindOf : Nat) (n_light : Nat) (n_heavy : Nat) (n_seenBy : Nat) (n_seenCut : Nat) (n_seenFound : Nat) (i : Int32)  : MI l yX7_cell wsX7_cell ({ frames := 2, cells := 0, slots := 0, locals := 43 }) D k [.ref h, .int i] [(h, .inr (6, [.ref h_now, .ref h_trial, .ref h_images, .ref h_imageThere, .ref h_teller, .ref h_ranks, .ref h_court, .ref h_sheets, .int 0, .int 0])), (h_now, .inr (5, [.ref n_weights, .ref n_kindOf, .ref n_light, .ref n_heavy, .ref n_seenBy, .ref n_seenCut, .ref n_seenFound, .int 2, .int 0, .int 0, .int 0, .int 0, .int 2, .int 0, .int 0])), (n_weights, .inl (k 0, 8, .inl (hsw)))] sz (fun (r : Int32) (u : Unit) => r = A_cell i) (fun (u : Unit) => []) := by
  refine Met.ofW (cc := cX7_cell) (maxL := 2) (ret := (some .int)) (by decide) rfl ?_
  intro p e s m args below meth c s₁ B hml hv
  obtain ⟨rfl, hsz, hP, hK, hD0, hN⟩ := hv
  have hx := B.exec
  have hb := B.bytes
  have hr := B.returns
  have hlocks := B.notSynchronized
  have hts := atoms_spec (ws := wsX7_cell) B.pre
  have hown : s.vm.findClass RX7 = some m.cls := findClass_of_methodNamed B.named
  have hiX6 : ∀ w ∈ u_ws RX6 TX6 15, w ∈ wsX7_cell := by decide +kernel
  have hiX7 : ∀ w ∈ u_ws RX7 TX7 10, w ∈ wsX7_cell := by decide +kernel
  have fl10 := hts (.fieldLink RX7 10 "HalfScales" "now" "LHalfScales$Thing;") (by decide +kernel)
  have fl122 := hts (.fieldLink RX7 122 "HalfScales$Thing" "weights" "[I") (by decide +kernel)
  subst hsz
  have hD := hD0.self (sz := s.heap.size)
  generalize hAe : va_A [(h, .inr (6, [.ref h_now, .ref h_trial, .ref h_images, .ref h_imageThere, .ref h_teller, .ref h_ranks, .ref h_court, .ref h_sheets, .int 0, .int 0])), (h_now, .inr (5, [.ref n_weights, .ref n_kindOf, .ref n_light, .ref n_heavy, .ref n_seenBy, .ref n_seenCut, .ref n_seenFound, .int 2, .int 0, .int 0, .int 0, .int 0, .int 2, .int 0, .int 0])), (n_weights, .inl (k 0, 8, .inl (hsw)))] s.heap.size = A at hD ⊢
  have hA : ∀ q : Nat, s.heap.size ≤ q → A q := fun q h => by rw [← hAe]; exact Or.inr h
  have hS : va_S A s.heap s.heap [] := va_S.rf
  have hl := lv_entry ([.ref h, .int i]) (n := 2) (Nat.le_of_ble_eq_true rfl)
  rw [lg_entry_eq]
  generalize (lg_sl ([.ref h, .int i]) ++ List.replicate (2 - (lg_sl ([.ref h, .int i])).length) Slot.unset).toArray = ls at hl ⊢
  have hl : lv_has ls 2 [(0, .ref h), (1, .int i)] := hl
  have hP : va_P D vwCl [(h, .inr (6, [.ref h_now, .ref h_trial, .ref h_images, .ref h_imageThere, .ref h_teller, .ref h_ranks, .ref h_court, .ref h_sheets, .int 0, .int 0])), (h_now, .inr (5, [.ref n_weights, .ref n_kindOf, .ref n_light, .ref n_heavy, .ref n_seenBy, .ref n_seenCut, .ref n_seenFound, .int 2, .int 0, .int 0, .int 0, .int 0, .int 2, .int 0, .int 0])), (n_weights, .inl (k 0, 8, .inl (hsw)))] s.heap := hP
  refine lv_aload_n hx hb dX7_cell_0 rfl (lv_at hl 0 rfl) ?_
  refine va_get (D := D) (ci := 6) (v := .ref h_now) (C := RX7) (T := TX7) (N := 10) hx hb hts hiX7 hown hK hP 0 rfl rfl 0 (by decide) fl10 (fun _ h9 => h9) rfl dX7_cell_1 ?_
  refine lv_iload_n hx hb dX7_cell_4 rfl (lv_at hl 1 rfl) ?_
  refine hs_ci (va_runV (As := [.int i]) (rest := []) ⟨hx, hb, hml, hown, hts⟩ (c_isCell0 l D k _ h_now n_weights n_kindOf n_light n_heavy n_seenBy n_seenCut n_seenFound i) (cwV 1 hts gX7_cell_X6_isCell rfl rfl rfl (by decide +kernel) ⟨Nat.le_of_ble_eq_true rfl, Nat.le_of_ble_eq_true rfl⟩) (hs_preV hK hN (hs_subP (w := [(h_now, .inr (5, [.ref n_weights, .ref n_kindOf, .ref n_light, .ref n_heavy, .ref n_seenBy, .ref n_seenCut, .ref n_seenFound, .int 2, .int 0, .int 0, .int 0, .int 0, .int 2, .int 0, .int 0]))]) hP [1] rfl) (hD.sub (ws' := [(h_now, .inr (5, [.ref n_weights, .ref n_kindOf, .ref n_light, .ref n_heavy, .ref n_seenBy, .ref n_seenCut, .ref n_seenFound, .int 2, .int 0, .int 0, .int 0, .int 0, .int 2, .int 0, .int 0]))]) [1] (by decide) rfl) (ci := 5) (q0 := 0) rfl rfl) rfl rfl hl.1 rfl (lv_room (Nat.le_of_ble_eq_true rfl)) dX7_cell_5 ⟨Nat.le_of_ble_eq_true rfl, Nat.le_of_ble_eq_true rfl⟩) hP hD hS hA [1] [0, 2] [(h, .inr (6, [.ref h_now, .ref h_trial, .ref h_images, .ref h_imageThere, .ref h_teller, .ref h_ranks, .ref h_court, .ref h_sheets, .int 0, .int 0])), (n_weights, .inl (k 0, 8, .inl (hsw)))] rfl rfl (by decide) (by decide) [0, 2, 1] (fun u_3 => [(h, .inr (6, [.ref h_now, .ref h_trial, .ref h_images, .ref h_imageThere, .ref h_teller, .ref h_ranks, .ref h_court, .ref h_sheets, .int 0, .int 0])), (h_now, .inr (5, [.ref n_weights, .ref n_kindOf, .ref n_light, .ref n_heavy, .ref n_seenBy, .ref n_seenCut, .ref n_seenFound, .int 2, .int 0, .int 0, .int 0, .int 0, .int 2, .int 0, .int 0])), (n_weights, .inl (k 0, 8, .inl (hsw)))]) (fun _ => rfl) (by decide) (fun r_1 u_3 H locs hw_2 hP hD hS => ?_)
  have hP : va_P D vwCl [(h, .inr (6, [.ref h_now, .ref h_trial, .ref h_images, .ref h_imageThere, .ref h_teller, .ref h_ranks, .ref h_court, .ref h_sheets, .int 0, .int 0])), (h_now, .inr (5, [.ref n_weights, .ref n_kindOf, .ref n_light, .ref n_heavy, .ref n_seenBy, .ref n_seenCut, .ref n_seenFound, .int 2, .int 0, .int 0, .int 0, .int 0, .int 2, .int 0, .int 0])), (n_weights, .inl (k 0, 8, .inl (hsw)))] H := hP
  have hD : va_D A [(h, .inr (6, [.ref h_now, .ref h_trial, .ref h_images, .ref h_imageThere, .ref h_teller, .ref h_ranks, .ref h_court, .ref h_sheets, .int 0, .int 0])), (h_now, .inr (5, [.ref n_weights, .ref n_kindOf, .ref n_light, .ref n_heavy, .ref n_seenBy, .ref n_seenCut, .ref n_seenFound, .int 2, .int 0, .int 0, .int 0, .int 0, .int 2, .int 0, .int 0])), (n_weights, .inl (k 0, 8, .inl (hsw)))] := hD
  refine hs_topi (hsb (hsin i 0 1)) hw_2 ?_
  refine lv_if_eq (tgt := 23) hx hb dX7_cell_8 (by decide) (fun c_4 => ?_) (fun c_4 => ?_)
  · refine lv_iconst (v := (-1)) hx hb dX7_cell_23 (by decide) ?_
    exact hs_iret hx hb hr hlocks hK hP hD hS () [] rfl (by decide) dX7_cell_24 (by first | rfl | decide | (simp only [hsb_0, hsb_1] at c_4; simp [A_cell, c_4]; done) | (simp [A_cell, c_4]; done))
  · rcases hs_v01 (hs_nb c_4) with rfl | rfl
    · refine lv_aload_n hx hb dX7_cell_11 rfl (lv_at hl 0 rfl) ?_
      refine va_get (D := D) (ci := 6) (v := .ref h_now) (C := RX7) (T := TX7) (N := 10) hx hb hts hiX7 hown hK hP 0 rfl rfl 0 (by decide) fl10 (fun _ h9 => h9) rfl dX7_cell_12 ?_
      refine va_get (D := D) (ci := 5) (v := .ref n_weights) (C := RX6) (T := TX6) (N := 15) hx hb hts hiX6 hown hK hP 1 rfl rfl 0 (by decide) fl122 (fun _ h9 => h9) rfl dX7_cell_15 ?_
      refine lv_iload_n hx hb dX7_cell_18 rfl (lv_at hl 1 rfl) ?_
      refine va_iald hx hb hK hP 2 0 rfl rfl (hs_in (by decide)) dX7_cell_19 ?_
      refine hs_topi 1 (by first | rfl | decide +kernel) ?_
      refine lv_goto (tgt := 24) hx hb dX7_cell_20 (by decide) ?_
      exact hs_iret hx hb hr hlocks hK hP hD hS () [] rfl (by decide) dX7_cell_24 (by first | rfl | decide | (simp only [hsb_0, hsb_1] at c_4; simp [A_cell, c_4]; done) | (simp [A_cell, c_4]; done))
    · refine lv_aload_n hx hb dX7_cell_11 rfl (lv_at hl 0 rfl) ?_
      refine va_get (D := D) (ci := 6) (v := .ref h_now) (C := RX7) (T := TX7) (N := 10) hx hb hts hiX7 hown hK hP 0 rfl rfl 0 (by decide) fl10 (fun _ h9 => h9) rfl dX7_cell_12 ?_
      refine va_get (D := D) (ci := 5) (v := .ref n_weights) (C := RX6) (T := TX6) (N := 15) hx hb hts hiX6 hown hK hP 1 rfl rfl 0 (by decide) fl122 (fun _ h9 => h9) rfl dX7_cell_15 ?_
      refine lv_iload_n hx hb dX7_cell_18 rfl (lv_at hl 1 rfl) ?_
      refine va_iald hx hb hK hP 2 0 rfl rfl (hs_in (by decide)) dX7_cell_19 ?_
      refine hs_topi 1 (by first | rfl | decide +kernel) ?_
      refine lv_goto (tgt := 24) hx hb dX7_cell_20 (by decide) ?_
      exact hs_iret hx hb hr hlocks hK hP hD hS () [] rfl (by decide) dX7_cell_24 (by first | rfl | decide | (simp only [hsb_0, hsb_1] at c_4; simp [A_cell, c_4]; done) | (simp [A_cell, c_4]; done))

set_option maxHeartbeats 4000000 in
set_option maxRecDepth 100000 in
theorem p_person (l : Launch) (D : va_G) (k : Nat → ClassId) (sz : Nat) (h : Nat) (h_now : Nat) (h_trial : Nat) (h_images : Nat) (h_imageThere : Nat) (h_teller : Nat) (h_ranks : Nat) (h_court : Nat) (h_sheets : Nat) (n_weights : Nat) (n_kindOf : Nat) (n_light : Nat) (n_heavy : Nat) (n_seenBy : Nat) (n_seenCut : Nat) (n_seenFound : Nat) (i : Int32)  : MI l yX7_person wsX7_person ({ frames := 2, cells := 0, slots := 0, locals := 43 }) D k [.ref h, .int i] [(h, .inr (6, [.ref h_now, .ref h_trial, .ref h_images, .ref h_imageThere, .ref h_teller, .ref h_ranks, .ref h_court, .ref h_sheets, .int 0, .int 0])), (h_now, .inr (5, [.ref n_weights, .ref n_kindOf, .ref n_light, .ref n_heavy, .ref n_seenBy, .ref n_seenCut, .ref n_seenFound, .int 2, .int 0, .int 0, .int 0, .int 0, .int 2, .int 0, .int 0]))] sz (fun (r : Int32) (u : Unit) => r = A_person i) (fun (u : Unit) => []) := by
  refine Met.ofW (cc := cX7_person) (maxL := 2) (ret := (some .int)) (by decide) rfl ?_
  intro p e s m args below meth c s₁ B hml hv
  obtain ⟨rfl, hsz, hP, hK, hD0, hN⟩ := hv
  have hx := B.exec
  have hb := B.bytes
  have hr := B.returns
  have hlocks := B.notSynchronized
  have hts := atoms_spec (ws := wsX7_person) B.pre
  have hown : s.vm.findClass RX7 = some m.cls := findClass_of_methodNamed B.named
  have hiX7 : ∀ w ∈ u_ws RX7 TX7 10, w ∈ wsX7_person := by decide +kernel
  have fl10 := hts (.fieldLink RX7 10 "HalfScales" "now" "LHalfScales$Thing;") (by decide +kernel)
  subst hsz
  have hD := hD0.self (sz := s.heap.size)
  generalize hAe : va_A [(h, .inr (6, [.ref h_now, .ref h_trial, .ref h_images, .ref h_imageThere, .ref h_teller, .ref h_ranks, .ref h_court, .ref h_sheets, .int 0, .int 0])), (h_now, .inr (5, [.ref n_weights, .ref n_kindOf, .ref n_light, .ref n_heavy, .ref n_seenBy, .ref n_seenCut, .ref n_seenFound, .int 2, .int 0, .int 0, .int 0, .int 0, .int 2, .int 0, .int 0]))] s.heap.size = A at hD ⊢
  have hA : ∀ q : Nat, s.heap.size ≤ q → A q := fun q h => by rw [← hAe]; exact Or.inr h
  have hS : va_S A s.heap s.heap [] := va_S.rf
  have hl := lv_entry ([.ref h, .int i]) (n := 2) (Nat.le_of_ble_eq_true rfl)
  rw [lg_entry_eq]
  generalize (lg_sl ([.ref h, .int i]) ++ List.replicate (2 - (lg_sl ([.ref h, .int i])).length) Slot.unset).toArray = ls at hl ⊢
  have hl : lv_has ls 2 [(0, .ref h), (1, .int i)] := hl
  have hP : va_P D vwCl [(h, .inr (6, [.ref h_now, .ref h_trial, .ref h_images, .ref h_imageThere, .ref h_teller, .ref h_ranks, .ref h_court, .ref h_sheets, .int 0, .int 0])), (h_now, .inr (5, [.ref n_weights, .ref n_kindOf, .ref n_light, .ref n_heavy, .ref n_seenBy, .ref n_seenCut, .ref n_seenFound, .int 2, .int 0, .int 0, .int 0, .int 0, .int 2, .int 0, .int 0]))] s.heap := hP
  refine lv_aload_n hx hb dX7_person_0 rfl (lv_at hl 0 rfl) ?_
  refine va_get (D := D) (ci := 6) (v := .ref h_now) (C := RX7) (T := TX7) (N := 10) hx hb hts hiX7 hown hK hP 0 rfl rfl 0 (by decide) fl10 (fun _ h9 => h9) rfl dX7_person_1 ?_
  refine lv_iload_n hx hb dX7_person_4 rfl (lv_at hl 1 rfl) ?_
  refine hs_ci (va_runV (As := [.int i]) (rest := []) ⟨hx, hb, hml, hown, hts⟩ (c_isPerson0 l D k _ h_now n_weights n_kindOf n_light n_heavy n_seenBy n_seenCut n_seenFound i) (cwV 1 hts gX7_person_X6_isPerson rfl rfl rfl (by decide +kernel) ⟨Nat.le_of_ble_eq_true rfl, Nat.le_of_ble_eq_true rfl⟩) (hs_preV hK hN (hs_subP (w := [(h_now, .inr (5, [.ref n_weights, .ref n_kindOf, .ref n_light, .ref n_heavy, .ref n_seenBy, .ref n_seenCut, .ref n_seenFound, .int 2, .int 0, .int 0, .int 0, .int 0, .int 2, .int 0, .int 0]))]) hP [1] rfl) (hD.sub (ws' := [(h_now, .inr (5, [.ref n_weights, .ref n_kindOf, .ref n_light, .ref n_heavy, .ref n_seenBy, .ref n_seenCut, .ref n_seenFound, .int 2, .int 0, .int 0, .int 0, .int 0, .int 2, .int 0, .int 0]))]) [1] (by decide) rfl) (ci := 5) (q0 := 0) rfl rfl) rfl rfl hl.1 rfl (lv_room (Nat.le_of_ble_eq_true rfl)) dX7_person_5 ⟨Nat.le_of_ble_eq_true rfl, Nat.le_of_ble_eq_true rfl⟩) hP hD hS hA [1] [0] [(h, .inr (6, [.ref h_now, .ref h_trial, .ref h_images, .ref h_imageThere, .ref h_teller, .ref h_ranks, .ref h_court, .ref h_sheets, .int 0, .int 0]))] rfl rfl (by decide) (by decide) [0, 1] (fun u_3 => [(h, .inr (6, [.ref h_now, .ref h_trial, .ref h_images, .ref h_imageThere, .ref h_teller, .ref h_ranks, .ref h_court, .ref h_sheets, .int 0, .int 0])), (h_now, .inr (5, [.ref n_weights, .ref n_kindOf, .ref n_light, .ref n_heavy, .ref n_seenBy, .ref n_seenCut, .ref n_seenFound, .int 2, .int 0, .int 0, .int 0, .int 0, .int 2, .int 0, .int 0]))]) (fun _ => rfl) (by decide) (fun r_1 u_3 H locs hw_2 hP hD hS => ?_)
  have hP : va_P D vwCl [(h, .inr (6, [.ref h_now, .ref h_trial, .ref h_images, .ref h_imageThere, .ref h_teller, .ref h_ranks, .ref h_court, .ref h_sheets, .int 0, .int 0])), (h_now, .inr (5, [.ref n_weights, .ref n_kindOf, .ref n_light, .ref n_heavy, .ref n_seenBy, .ref n_seenCut, .ref n_seenFound, .int 2, .int 0, .int 0, .int 0, .int 0, .int 2, .int 0, .int 0]))] H := hP
  have hD : va_D A [(h, .inr (6, [.ref h_now, .ref h_trial, .ref h_images, .ref h_imageThere, .ref h_teller, .ref h_ranks, .ref h_court, .ref h_sheets, .int 0, .int 0])), (h_now, .inr (5, [.ref n_weights, .ref n_kindOf, .ref n_light, .ref n_heavy, .ref n_seenBy, .ref n_seenCut, .ref n_seenFound, .int 2, .int 0, .int 0, .int 0, .int 0, .int 2, .int 0, .int 0]))] := hD
  refine hs_topi 0 (hw_2.trans (by first | rfl | decide +kernel | rfl)) ?_
  refine lv_if_eq (tgt := 23) hx hb dX7_person_8 (by decide) (fun c_4 => ?_) (fun c_4 => absurd c_4 (by decide))
  refine lv_iconst (v := (-1)) hx hb dX7_person_23 (by decide) ?_
  exact hs_iret hx hb hr hlocks hK hP hD hS () [] rfl (by decide) dX7_person_24 (by first | rfl | decide | (simp only [hsb_0, hsb_1] at c_4; simp [A_person, c_4]; done) | (simp [A_person, c_4]; done))

set_option maxHeartbeats 4000000 in
set_option maxRecDepth 100000 in
theorem p_pair (l : Launch) (D : va_G) (k : Nat → ClassId) (sz : Nat) (h : Nat) (h_now : Nat) (h_trial : Nat) (h_images : Nat) (h_imageThere : Nat) (h_teller : Nat) (h_ranks : Nat) (h_court : Nat) (h_sheets : Nat) (n_weights : Nat) (n_kindOf : Nat) (n_light : Nat) (n_heavy : Nat) (n_seenBy : Nat) (n_seenCut : Nat) (n_seenFound : Nat) (i : Int32)  : MI l yX7_pair wsX7_pair ({ frames := 1, cells := 0, slots := 0, locals := 22 }) D k [.ref h, .int i] [(h, .inr (6, [.ref h_now, .ref h_trial, .ref h_images, .ref h_imageThere, .ref h_teller, .ref h_ranks, .ref h_court, .ref h_sheets, .int 0, .int 0])), (h_now, .inr (5, [.ref n_weights, .ref n_kindOf, .ref n_light, .ref n_heavy, .ref n_seenBy, .ref n_seenCut, .ref n_seenFound, .int 2, .int 0, .int 0, .int 0, .int 0, .int 2, .int 0, .int 0]))] sz (fun (r : Int32) (u : Unit) => r = A_pair i) (fun (u : Unit) => []) := by
  refine Met.ofW (cc := cX7_pair) (maxL := 2) (ret := (some .int)) (by decide) rfl ?_
  intro p e s m args below meth c s₁ B hml hv
  obtain ⟨rfl, hsz, hP, hK, hD0, hN⟩ := hv
  have hx := B.exec
  have hb := B.bytes
  have hr := B.returns
  have hlocks := B.notSynchronized
  have hts := atoms_spec (ws := wsX7_pair) B.pre
  have hown : s.vm.findClass RX7 = some m.cls := findClass_of_methodNamed B.named
  have hiX6 : ∀ w ∈ u_ws RX6 TX6 15, w ∈ wsX7_pair := by decide +kernel
  have hiX7 : ∀ w ∈ u_ws RX7 TX7 10, w ∈ wsX7_pair := by decide +kernel
  have fl10 := hts (.fieldLink RX7 10 "HalfScales" "now" "LHalfScales$Thing;") (by decide +kernel)
  have fl111 := hts (.fieldLink RX7 111 "HalfScales$Thing" "pairCount" "I") (by decide +kernel)
  subst hsz
  have hD := hD0.self (sz := s.heap.size)
  generalize hAe : va_A [(h, .inr (6, [.ref h_now, .ref h_trial, .ref h_images, .ref h_imageThere, .ref h_teller, .ref h_ranks, .ref h_court, .ref h_sheets, .int 0, .int 0])), (h_now, .inr (5, [.ref n_weights, .ref n_kindOf, .ref n_light, .ref n_heavy, .ref n_seenBy, .ref n_seenCut, .ref n_seenFound, .int 2, .int 0, .int 0, .int 0, .int 0, .int 2, .int 0, .int 0]))] s.heap.size = A at hD ⊢
  have hA : ∀ q : Nat, s.heap.size ≤ q → A q := fun q h => by rw [← hAe]; exact Or.inr h
  have hS : va_S A s.heap s.heap [] := va_S.rf
  have hl := lv_entry ([.ref h, .int i]) (n := 2) (Nat.le_of_ble_eq_true rfl)
  rw [lg_entry_eq]
  generalize (lg_sl ([.ref h, .int i]) ++ List.replicate (2 - (lg_sl ([.ref h, .int i])).length) Slot.unset).toArray = ls at hl ⊢
  have hl : lv_has ls 2 [(0, .ref h), (1, .int i)] := hl
  have hP : va_P D vwCl [(h, .inr (6, [.ref h_now, .ref h_trial, .ref h_images, .ref h_imageThere, .ref h_teller, .ref h_ranks, .ref h_court, .ref h_sheets, .int 0, .int 0])), (h_now, .inr (5, [.ref n_weights, .ref n_kindOf, .ref n_light, .ref n_heavy, .ref n_seenBy, .ref n_seenCut, .ref n_seenFound, .int 2, .int 0, .int 0, .int 0, .int 0, .int 2, .int 0, .int 0]))] s.heap := hP
  refine lv_iload_n hx hb dX7_pair_0 rfl (lv_at hl 1 rfl) ?_
  refine lv_iconst (v := 0) hx hb dX7_pair_1 (by decide) ?_
  refine lv_aload_n hx hb dX7_pair_2 rfl (lv_at hl 0 rfl) ?_
  refine va_get (D := D) (ci := 6) (v := .ref h_now) (C := RX7) (T := TX7) (N := 10) hx hb hts hiX7 hown hK hP 0 rfl rfl 0 (by decide) fl10 (fun _ h9 => h9) rfl dX7_pair_3 ?_
  refine va_get (D := D) (ci := 5) (v := .int 0) (C := RX6) (T := TX6) (N := 15) hx hb hts hiX6 hown hK hP 1 rfl rfl 13 (by decide) fl111 (fun _ h9 => h9) rfl dX7_pair_6 ?_
  refine lv_iconst (v := 1) hx hb dX7_pair_9 (by decide) ?_
  refine lv_isub hx hb dX7_pair_10 ?_
  refine hs_topi (-1) (by first | rfl | decide +kernel) ?_
  refine hs_pi (va_runS (As := [.int i, .int 0, .int (-1)]) (rest := []) ⟨hx, hb, hml, hown, hts⟩ (c_within l D k _ i 0 (-1)) (va_cwS 3 hts gX7_pair_X7_within rfl rfl rfl (by decide +kernel) ⟨Nat.le_of_ble_eq_true rfl, Nat.le_of_ble_eq_true rfl⟩) (hs_preS hK hN (hs_subP (w := []) hP [] rfl) (hD.sub (ws' := []) [] (by decide) rfl)) rfl rfl hl.1 rfl (lv_room (Nat.le_of_ble_eq_true rfl)) dX7_pair_11 ⟨Nat.le_of_ble_eq_true rfl, Nat.le_of_ble_eq_true rfl⟩) hP hD hS hA (fun r_1 u_3 H locs hw_2 hP hS => ?_)
  refine hs_topi 0 (hw_2.trans (by first | rfl | decide +kernel | (rw [hsin_no]; rfl))) ?_
  refine lv_if_ne (tgt := 19) hx hb dX7_pair_14 (by decide) (fun c_4 => absurd c_4 (by decide)) (fun c_4 => ?_)
  refine lv_iconst (v := (-1)) hx hb dX7_pair_17 (by decide) ?_
  exact hs_iret hx hb hr hlocks hK hP hD hS () [] rfl (by decide) dX7_pair_18 (by first | rfl | decide | (simp only [hsb_0, hsb_1] at c_4; simp [A_pair, c_4]; done) | (simp [A_pair, c_4]; done))

set_option maxHeartbeats 4000000 in
set_option maxRecDepth 100000 in
theorem p_weigh (l : Launch) (D : va_G) (k : Nat → ClassId) (sz : Nat) (h : Nat) (h_now : Nat) (h_trial : Nat) (h_images : Nat) (h_imageThere : Nat) (h_teller : Nat) (h_ranks : Nat) (h_court : Nat) (h_sheets : Nat) (n_weights : Nat) (n_kindOf : Nat) (n_light : Nat) (n_heavy : Nat) (n_seenBy : Nat) (n_seenCut : Nat) (n_seenFound : Nat) (i : Int32) (v : Int32)  : MI l yX7_weigh wsX7_weigh ({ frames := 3, cells := 0, slots := 0, locals := 65 }) D k [.ref h, .int i, .int v] [(h, .inr (6, [.ref h_now, .ref h_trial, .ref h_images, .ref h_imageThere, .ref h_teller, .ref h_ranks, .ref h_court, .ref h_sheets, .int 0, .int 0])), (h_now, .inr (5, [.ref n_weights, .ref n_kindOf, .ref n_light, .ref n_heavy, .ref n_seenBy, .ref n_seenCut, .ref n_seenFound, .int 2, .int 0, .int 0, .int 0, .int 0, .int 2, .int 0, .int 0])), (n_weights, .inl (k 0, 8, .inl (hsw)))] sz (fun (r : Int32) (u : Unit) => r = A_weigh i v) (fun (u : Unit) => []) := by
  refine Met.ofW (cc := cX7_weigh) (maxL := 4) (ret := (some .int)) (by decide) rfl ?_
  intro p e s m args below meth c s₁ B hml hv
  obtain ⟨rfl, hsz, hP, hK, hD0, hN⟩ := hv
  have hx := B.exec
  have hb := B.bytes
  have hr := B.returns
  have hlocks := B.notSynchronized
  have hts := atoms_spec (ws := wsX7_weigh) B.pre
  have hown : s.vm.findClass RX7 = some m.cls := findClass_of_methodNamed B.named
  have hiX6 : ∀ w ∈ u_ws RX6 TX6 15, w ∈ wsX7_weigh := by decide +kernel
  have hiX7 : ∀ w ∈ u_ws RX7 TX7 10, w ∈ wsX7_weigh := by decide +kernel
  have fl10 := hts (.fieldLink RX7 10 "HalfScales" "now" "LHalfScales$Thing;") (by decide +kernel)
  have fl122 := hts (.fieldLink RX7 122 "HalfScales$Thing" "weights" "[I") (by decide +kernel)
  subst hsz
  have hD := hD0.self (sz := s.heap.size)
  generalize hAe : va_A [(h, .inr (6, [.ref h_now, .ref h_trial, .ref h_images, .ref h_imageThere, .ref h_teller, .ref h_ranks, .ref h_court, .ref h_sheets, .int 0, .int 0])), (h_now, .inr (5, [.ref n_weights, .ref n_kindOf, .ref n_light, .ref n_heavy, .ref n_seenBy, .ref n_seenCut, .ref n_seenFound, .int 2, .int 0, .int 0, .int 0, .int 0, .int 2, .int 0, .int 0])), (n_weights, .inl (k 0, 8, .inl (hsw)))] s.heap.size = A at hD ⊢
  have hA : ∀ q : Nat, s.heap.size ≤ q → A q := fun q h => by rw [← hAe]; exact Or.inr h
  have hS : va_S A s.heap s.heap [] := va_S.rf
  have hl := lv_entry ([.ref h, .int i, .int v]) (n := 4) (Nat.le_of_ble_eq_true rfl)
  rw [lg_entry_eq]
  generalize (lg_sl ([.ref h, .int i, .int v]) ++ List.replicate (4 - (lg_sl ([.ref h, .int i, .int v])).length) Slot.unset).toArray = ls at hl ⊢
  have hl : lv_has ls 4 [(0, .ref h), (1, .int i), (2, .int v)] := hl
  have hP : va_P D vwCl [(h, .inr (6, [.ref h_now, .ref h_trial, .ref h_images, .ref h_imageThere, .ref h_teller, .ref h_ranks, .ref h_court, .ref h_sheets, .int 0, .int 0])), (h_now, .inr (5, [.ref n_weights, .ref n_kindOf, .ref n_light, .ref n_heavy, .ref n_seenBy, .ref n_seenCut, .ref n_seenFound, .int 2, .int 0, .int 0, .int 0, .int 0, .int 2, .int 0, .int 0])), (n_weights, .inl (k 0, 8, .inl (hsw)))] s.heap := hP
  refine lv_aload_n hx hb dX7_weigh_0 rfl (lv_at hl 0 rfl) ?_
  refine va_get (D := D) (ci := 6) (v := .ref h_now) (C := RX7) (T := TX7) (N := 10) hx hb hts hiX7 hown hK hP 0 rfl rfl 0 (by decide) fl10 (fun _ h9 => h9) rfl dX7_weigh_1 ?_
  refine lv_iload_n hx hb dX7_weigh_4 rfl (lv_at hl 1 rfl) ?_
  refine lv_iload_n hx hb dX7_weigh_5 rfl (lv_at hl 2 rfl) ?_
  refine hs_ci (va_runV (As := [.int i, .int v]) (rest := []) ⟨hx, hb, hml, hown, hts⟩ (c_canWeigh0 l D k _ h_now n_weights n_kindOf n_light n_heavy n_seenBy n_seenCut n_seenFound i v) (cwV 2 hts gX7_weigh_X6_canWeigh rfl rfl rfl (by decide +kernel) ⟨Nat.le_of_ble_eq_true rfl, Nat.le_of_ble_eq_true rfl⟩) (hs_preV hK hN (hs_subP (w := [(h_now, .inr (5, [.ref n_weights, .ref n_kindOf, .ref n_light, .ref n_heavy, .ref n_seenBy, .ref n_seenCut, .ref n_seenFound, .int 2, .int 0, .int 0, .int 0, .int 0, .int 2, .int 0, .int 0]))]) hP [1] rfl) (hD.sub (ws' := [(h_now, .inr (5, [.ref n_weights, .ref n_kindOf, .ref n_light, .ref n_heavy, .ref n_seenBy, .ref n_seenCut, .ref n_seenFound, .int 2, .int 0, .int 0, .int 0, .int 0, .int 2, .int 0, .int 0]))]) [1] (by decide) rfl) (ci := 5) (q0 := 0) rfl rfl) rfl rfl hl.1 rfl (lv_room (Nat.le_of_ble_eq_true rfl)) dX7_weigh_6 ⟨Nat.le_of_ble_eq_true rfl, Nat.le_of_ble_eq_true rfl⟩) hP hD hS hA [1] [0, 2] [(h, .inr (6, [.ref h_now, .ref h_trial, .ref h_images, .ref h_imageThere, .ref h_teller, .ref h_ranks, .ref h_court, .ref h_sheets, .int 0, .int 0])), (n_weights, .inl (k 0, 8, .inl (hsw)))] rfl rfl (by decide) (by decide) [0, 2, 1] (fun u_3 => [(h, .inr (6, [.ref h_now, .ref h_trial, .ref h_images, .ref h_imageThere, .ref h_teller, .ref h_ranks, .ref h_court, .ref h_sheets, .int 0, .int 0])), (h_now, .inr (5, [.ref n_weights, .ref n_kindOf, .ref n_light, .ref n_heavy, .ref n_seenBy, .ref n_seenCut, .ref n_seenFound, .int 2, .int 0, .int 0, .int 0, .int 0, .int 2, .int 0, .int 0])), (n_weights, .inl (k 0, 8, .inl (hsw)))]) (fun _ => rfl) (by decide) (fun r_1 u_3 H locs hw_2 hP hD hS => ?_)
  have hP : va_P D vwCl [(h, .inr (6, [.ref h_now, .ref h_trial, .ref h_images, .ref h_imageThere, .ref h_teller, .ref h_ranks, .ref h_court, .ref h_sheets, .int 0, .int 0])), (h_now, .inr (5, [.ref n_weights, .ref n_kindOf, .ref n_light, .ref n_heavy, .ref n_seenBy, .ref n_seenCut, .ref n_seenFound, .int 2, .int 0, .int 0, .int 0, .int 0, .int 2, .int 0, .int 0])), (n_weights, .inl (k 0, 8, .inl (hsw)))] H := hP
  have hD : va_D A [(h, .inr (6, [.ref h_now, .ref h_trial, .ref h_images, .ref h_imageThere, .ref h_teller, .ref h_ranks, .ref h_court, .ref h_sheets, .int 0, .int 0])), (h_now, .inr (5, [.ref n_weights, .ref n_kindOf, .ref n_light, .ref n_heavy, .ref n_seenBy, .ref n_seenCut, .ref n_seenFound, .int 2, .int 0, .int 0, .int 0, .int 0, .int 2, .int 0, .int 0])), (n_weights, .inl (k 0, 8, .inl (hsw)))] := hD
  refine hs_topi (hsb (hsin i 0 1 && hsin v 0 9)) hw_2 ?_
  refine lv_if_ne (tgt := 14) hx hb dX7_weigh_9 (by decide) (fun c_4 => ?_) (fun c_4 => ?_)
  · rcases hs_v01 <| hs_and1 (hs_nb c_4) with rfl | rfl
    · refine lv_aload_n hx hb dX7_weigh_14 rfl (lv_at hl 0 rfl) ?_
      refine va_get (D := D) (ci := 6) (v := .ref h_now) (C := RX7) (T := TX7) (N := 10) hx hb hts hiX7 hown hK hP 0 rfl rfl 0 (by decide) fl10 (fun _ h9 => h9) rfl dX7_weigh_15 ?_
      refine va_get (D := D) (ci := 5) (v := .ref n_weights) (C := RX6) (T := TX6) (N := 15) hx hb hts hiX6 hown hK hP 1 rfl rfl 0 (by decide) fl122 (fun _ h9 => h9) rfl dX7_weigh_18 ?_
      refine lv_iload_n hx hb dX7_weigh_21 rfl (lv_at hl 1 rfl) ?_
      refine va_iald hx hb hK hP 2 0 rfl rfl (hs_in (by decide)) dX7_weigh_22 ?_
      refine hs_topi 1 (by first | rfl | decide +kernel) ?_
      refine lv_istore_n (lv' := [(3, .int 1), (0, .ref h), (1, .int 0), (2, .int v)]) hx hb dX7_weigh_23 rfl hl (by decide) rfl (fun ls hl => ?_)
      refine lv_aload_n hx hb dX7_weigh_24 rfl (lv_at hl 1 rfl) ?_
      refine va_get (D := D) (ci := 6) (v := .ref h_now) (C := RX7) (T := TX7) (N := 10) hx hb hts hiX7 hown hK hP 0 rfl rfl 0 (by decide) fl10 (fun _ h9 => h9) rfl dX7_weigh_25 ?_
      refine va_get (D := D) (ci := 5) (v := .ref n_weights) (C := RX6) (T := TX6) (N := 15) hx hb hts hiX6 hown hK hP 1 rfl rfl 0 (by decide) fl122 (fun _ h9 => h9) rfl dX7_weigh_28 ?_
      refine lv_iload_n hx hb dX7_weigh_31 rfl (lv_at hl 2 rfl) ?_
      refine lv_iload_n hx hb dX7_weigh_32 rfl (lv_at hl 3 rfl) ?_
      refine va_iast hx hb hK hP hD hS 2 0 rfl rfl (hs_in (by decide)) dX7_weigh_33 (fun H locs hP hD hS => ?_)
      have hP : va_P D vwCl [(h, .inr (6, [.ref h_now, .ref h_trial, .ref h_images, .ref h_imageThere, .ref h_teller, .ref h_ranks, .ref h_court, .ref h_sheets, .int 0, .int 0])), (h_now, .inr (5, [.ref n_weights, .ref n_kindOf, .ref n_light, .ref n_heavy, .ref n_seenBy, .ref n_seenCut, .ref n_seenFound, .int 2, .int 0, .int 0, .int 0, .int 0, .int 2, .int 0, .int 0])), (n_weights, .inl (k 0, 8, .inl (upd hsw 0 v)))] H := hP
      have hD : va_D A [(h, .inr (6, [.ref h_now, .ref h_trial, .ref h_images, .ref h_imageThere, .ref h_teller, .ref h_ranks, .ref h_court, .ref h_sheets, .int 0, .int 0])), (h_now, .inr (5, [.ref n_weights, .ref n_kindOf, .ref n_light, .ref n_heavy, .ref n_seenBy, .ref n_seenCut, .ref n_seenFound, .int 2, .int 0, .int 0, .int 0, .int 0, .int 2, .int 0, .int 0])), (n_weights, .inl (k 0, 8, .inl (upd hsw 0 v)))] := hD
      refine lv_iload_n hx hb dX7_weigh_34 rfl (lv_at hl 0 rfl) ?_
      exact hs_iret hx hb hr hlocks hK hP hD hS () [] rfl (by decide) dX7_weigh_35 (by first | rfl | decide | (simp only [hsb_0, hsb_1] at c_4; simp [A_weigh, c_4]; done) | (simp [A_weigh, c_4]; done))
    · refine lv_aload_n hx hb dX7_weigh_14 rfl (lv_at hl 0 rfl) ?_
      refine va_get (D := D) (ci := 6) (v := .ref h_now) (C := RX7) (T := TX7) (N := 10) hx hb hts hiX7 hown hK hP 0 rfl rfl 0 (by decide) fl10 (fun _ h9 => h9) rfl dX7_weigh_15 ?_
      refine va_get (D := D) (ci := 5) (v := .ref n_weights) (C := RX6) (T := TX6) (N := 15) hx hb hts hiX6 hown hK hP 1 rfl rfl 0 (by decide) fl122 (fun _ h9 => h9) rfl dX7_weigh_18 ?_
      refine lv_iload_n hx hb dX7_weigh_21 rfl (lv_at hl 1 rfl) ?_
      refine va_iald hx hb hK hP 2 0 rfl rfl (hs_in (by decide)) dX7_weigh_22 ?_
      refine hs_topi 1 (by first | rfl | decide +kernel) ?_
      refine lv_istore_n (lv' := [(3, .int 1), (0, .ref h), (1, .int 1), (2, .int v)]) hx hb dX7_weigh_23 rfl hl (by decide) rfl (fun ls hl => ?_)
      refine lv_aload_n hx hb dX7_weigh_24 rfl (lv_at hl 1 rfl) ?_
      refine va_get (D := D) (ci := 6) (v := .ref h_now) (C := RX7) (T := TX7) (N := 10) hx hb hts hiX7 hown hK hP 0 rfl rfl 0 (by decide) fl10 (fun _ h9 => h9) rfl dX7_weigh_25 ?_
      refine va_get (D := D) (ci := 5) (v := .ref n_weights) (C := RX6) (T := TX6) (N := 15) hx hb hts hiX6 hown hK hP 1 rfl rfl 0 (by decide) fl122 (fun _ h9 => h9) rfl dX7_weigh_28 ?_
      refine lv_iload_n hx hb dX7_weigh_31 rfl (lv_at hl 2 rfl) ?_
      refine lv_iload_n hx hb dX7_weigh_32 rfl (lv_at hl 3 rfl) ?_
      refine va_iast hx hb hK hP hD hS 2 0 rfl rfl (hs_in (by decide)) dX7_weigh_33 (fun H locs hP hD hS => ?_)
      have hP : va_P D vwCl [(h, .inr (6, [.ref h_now, .ref h_trial, .ref h_images, .ref h_imageThere, .ref h_teller, .ref h_ranks, .ref h_court, .ref h_sheets, .int 0, .int 0])), (h_now, .inr (5, [.ref n_weights, .ref n_kindOf, .ref n_light, .ref n_heavy, .ref n_seenBy, .ref n_seenCut, .ref n_seenFound, .int 2, .int 0, .int 0, .int 0, .int 0, .int 2, .int 0, .int 0])), (n_weights, .inl (k 0, 8, .inl (upd hsw 1 v)))] H := hP
      have hD : va_D A [(h, .inr (6, [.ref h_now, .ref h_trial, .ref h_images, .ref h_imageThere, .ref h_teller, .ref h_ranks, .ref h_court, .ref h_sheets, .int 0, .int 0])), (h_now, .inr (5, [.ref n_weights, .ref n_kindOf, .ref n_light, .ref n_heavy, .ref n_seenBy, .ref n_seenCut, .ref n_seenFound, .int 2, .int 0, .int 0, .int 0, .int 0, .int 2, .int 0, .int 0])), (n_weights, .inl (k 0, 8, .inl (upd hsw 1 v)))] := hD
      refine lv_iload_n hx hb dX7_weigh_34 rfl (lv_at hl 0 rfl) ?_
      exact hs_iret hx hb hr hlocks hK hP hD hS () [] rfl (by decide) dX7_weigh_35 (by first | rfl | decide | (simp only [hsb_0, hsb_1] at c_4; simp [A_weigh, c_4]; done) | (simp [A_weigh, c_4]; done))
  · refine lv_iconst (v := (-1)) hx hb dX7_weigh_12 (by decide) ?_
    exact hs_iret hx hb hr hlocks hK hP hD hS () [] rfl (by decide) dX7_weigh_13 (by first | rfl | decide | (simp only [hsb_0, hsb_1] at c_4; simp [A_weigh, c_4]; done) | (simp [A_weigh, c_4]; done))

set_option maxHeartbeats 4000000 in
set_option maxRecDepth 100000 in
theorem p_split (l : Launch) (D : va_G) (k : Nat → ClassId) (sz : Nat) (h : Nat) (h_now : Nat) (h_trial : Nat) (h_images : Nat) (h_imageThere : Nat) (h_teller : Nat) (h_ranks : Nat) (h_court : Nat) (h_sheets : Nat) (n_weights : Nat) (n_kindOf : Nat) (n_light : Nat) (n_heavy : Nat) (n_seenBy : Nat) (n_seenCut : Nat) (n_seenFound : Nat) (i : Int32)  : MI l yX7_split wsX7_split ({ frames := 2, cells := 0, slots := 0, locals := 43 }) D k [.ref h, .int i] [(h, .inr (6, [.ref h_now, .ref h_trial, .ref h_images, .ref h_imageThere, .ref h_teller, .ref h_ranks, .ref h_court, .ref h_sheets, .int 0, .int 0])), (h_now, .inr (5, [.ref n_weights, .ref n_kindOf, .ref n_light, .ref n_heavy, .ref n_seenBy, .ref n_seenCut, .ref n_seenFound, .int 2, .int 0, .int 0, .int 0, .int 0, .int 2, .int 0, .int 0])), (n_weights, .inl (k 0, 8, .inl (hsw)))] sz (fun (r : Int32) (u : Unit) => r = A_split i) (fun (u : Unit) => []) := by
  refine Met.ofW (cc := cX7_split) (maxL := 2) (ret := (some .int)) (by decide) rfl ?_
  intro p e s m args below meth c s₁ B hml hv
  obtain ⟨rfl, hsz, hP, hK, hD0, hN⟩ := hv
  have hx := B.exec
  have hb := B.bytes
  have hr := B.returns
  have hlocks := B.notSynchronized
  have hts := atoms_spec (ws := wsX7_split) B.pre
  have hown : s.vm.findClass RX7 = some m.cls := findClass_of_methodNamed B.named
  have hiX6 : ∀ w ∈ u_ws RX6 TX6 15, w ∈ wsX7_split := by decide +kernel
  have hiX7 : ∀ w ∈ u_ws RX7 TX7 10, w ∈ wsX7_split := by decide +kernel
  have fl10 := hts (.fieldLink RX7 10 "HalfScales" "now" "LHalfScales$Thing;") (by decide +kernel)
  have fl93 := hts (.fieldLink RX7 93 "HalfScales$Thing" "cellCount" "I") (by decide +kernel)
  subst hsz
  have hD := hD0.self (sz := s.heap.size)
  generalize hAe : va_A [(h, .inr (6, [.ref h_now, .ref h_trial, .ref h_images, .ref h_imageThere, .ref h_teller, .ref h_ranks, .ref h_court, .ref h_sheets, .int 0, .int 0])), (h_now, .inr (5, [.ref n_weights, .ref n_kindOf, .ref n_light, .ref n_heavy, .ref n_seenBy, .ref n_seenCut, .ref n_seenFound, .int 2, .int 0, .int 0, .int 0, .int 0, .int 2, .int 0, .int 0])), (n_weights, .inl (k 0, 8, .inl (hsw)))] s.heap.size = A at hD ⊢
  have hA : ∀ q : Nat, s.heap.size ≤ q → A q := fun q h => by rw [← hAe]; exact Or.inr h
  have hS : va_S A s.heap s.heap [] := va_S.rf
  have hl := lv_entry ([.ref h, .int i]) (n := 2) (Nat.le_of_ble_eq_true rfl)
  rw [lg_entry_eq]
  generalize (lg_sl ([.ref h, .int i]) ++ List.replicate (2 - (lg_sl ([.ref h, .int i])).length) Slot.unset).toArray = ls at hl ⊢
  have hl : lv_has ls 2 [(0, .ref h), (1, .int i)] := hl
  have hP : va_P D vwCl [(h, .inr (6, [.ref h_now, .ref h_trial, .ref h_images, .ref h_imageThere, .ref h_teller, .ref h_ranks, .ref h_court, .ref h_sheets, .int 0, .int 0])), (h_now, .inr (5, [.ref n_weights, .ref n_kindOf, .ref n_light, .ref n_heavy, .ref n_seenBy, .ref n_seenCut, .ref n_seenFound, .int 2, .int 0, .int 0, .int 0, .int 0, .int 2, .int 0, .int 0])), (n_weights, .inl (k 0, 8, .inl (hsw)))] s.heap := hP
  refine lv_aload_n hx hb dX7_split_0 rfl (lv_at hl 0 rfl) ?_
  refine va_get (D := D) (ci := 6) (v := .ref h_now) (C := RX7) (T := TX7) (N := 10) hx hb hts hiX7 hown hK hP 0 rfl rfl 0 (by decide) fl10 (fun _ h9 => h9) rfl dX7_split_1 ?_
  refine lv_iload_n hx hb dX7_split_4 rfl (lv_at hl 1 rfl) ?_
  refine hs_ci (va_runV (As := [.int i]) (rest := []) ⟨hx, hb, hml, hown, hts⟩ (c_isCell0 l D k _ h_now n_weights n_kindOf n_light n_heavy n_seenBy n_seenCut n_seenFound i) (cwV 1 hts gX7_split_X6_isCell rfl rfl rfl (by decide +kernel) ⟨Nat.le_of_ble_eq_true rfl, Nat.le_of_ble_eq_true rfl⟩) (hs_preV hK hN (hs_subP (w := [(h_now, .inr (5, [.ref n_weights, .ref n_kindOf, .ref n_light, .ref n_heavy, .ref n_seenBy, .ref n_seenCut, .ref n_seenFound, .int 2, .int 0, .int 0, .int 0, .int 0, .int 2, .int 0, .int 0]))]) hP [1] rfl) (hD.sub (ws' := [(h_now, .inr (5, [.ref n_weights, .ref n_kindOf, .ref n_light, .ref n_heavy, .ref n_seenBy, .ref n_seenCut, .ref n_seenFound, .int 2, .int 0, .int 0, .int 0, .int 0, .int 2, .int 0, .int 0]))]) [1] (by decide) rfl) (ci := 5) (q0 := 0) rfl rfl) rfl rfl hl.1 rfl (lv_room (Nat.le_of_ble_eq_true rfl)) dX7_split_5 ⟨Nat.le_of_ble_eq_true rfl, Nat.le_of_ble_eq_true rfl⟩) hP hD hS hA [1] [0, 2] [(h, .inr (6, [.ref h_now, .ref h_trial, .ref h_images, .ref h_imageThere, .ref h_teller, .ref h_ranks, .ref h_court, .ref h_sheets, .int 0, .int 0])), (n_weights, .inl (k 0, 8, .inl (hsw)))] rfl rfl (by decide) (by decide) [0, 2, 1] (fun u_3 => [(h, .inr (6, [.ref h_now, .ref h_trial, .ref h_images, .ref h_imageThere, .ref h_teller, .ref h_ranks, .ref h_court, .ref h_sheets, .int 0, .int 0])), (h_now, .inr (5, [.ref n_weights, .ref n_kindOf, .ref n_light, .ref n_heavy, .ref n_seenBy, .ref n_seenCut, .ref n_seenFound, .int 2, .int 0, .int 0, .int 0, .int 0, .int 2, .int 0, .int 0])), (n_weights, .inl (k 0, 8, .inl (hsw)))]) (fun _ => rfl) (by decide) (fun r_1 u_3 H locs hw_2 hP hD hS => ?_)
  have hP : va_P D vwCl [(h, .inr (6, [.ref h_now, .ref h_trial, .ref h_images, .ref h_imageThere, .ref h_teller, .ref h_ranks, .ref h_court, .ref h_sheets, .int 0, .int 0])), (h_now, .inr (5, [.ref n_weights, .ref n_kindOf, .ref n_light, .ref n_heavy, .ref n_seenBy, .ref n_seenCut, .ref n_seenFound, .int 2, .int 0, .int 0, .int 0, .int 0, .int 2, .int 0, .int 0])), (n_weights, .inl (k 0, 8, .inl (hsw)))] H := hP
  have hD : va_D A [(h, .inr (6, [.ref h_now, .ref h_trial, .ref h_images, .ref h_imageThere, .ref h_teller, .ref h_ranks, .ref h_court, .ref h_sheets, .int 0, .int 0])), (h_now, .inr (5, [.ref n_weights, .ref n_kindOf, .ref n_light, .ref n_heavy, .ref n_seenBy, .ref n_seenCut, .ref n_seenFound, .int 2, .int 0, .int 0, .int 0, .int 0, .int 2, .int 0, .int 0])), (n_weights, .inl (k 0, 8, .inl (hsw)))] := hD
  refine hs_topi (hsb (hsin i 0 1)) hw_2 ?_
  refine lv_if_ne (tgt := 13) hx hb dX7_split_8 (by decide) (fun c_4 => ?_) (fun c_4 => ?_)
  · rcases hs_v01 (hs_nb c_4) with rfl | rfl
    · refine lv_aload_n hx hb dX7_split_13 rfl (lv_at hl 0 rfl) ?_
      refine va_get (D := D) (ci := 6) (v := .ref h_now) (C := RX7) (T := TX7) (N := 10) hx hb hts hiX7 hown hK hP 0 rfl rfl 0 (by decide) fl10 (fun _ h9 => h9) rfl dX7_split_14 ?_
      refine va_get (D := D) (ci := 5) (v := .int 2) (C := RX6) (T := TX6) (N := 15) hx hb hts hiX6 hown hK hP 1 rfl rfl 7 (by decide) fl93 (fun _ h9 => h9) rfl dX7_split_17 ?_
      refine lv_bipush (v := 8) hx hb dX7_split_20 (by decide) ?_
      refine lv_icmp_lt (tgt := 28) hx hb dX7_split_22 (by decide) (fun c_5 => ?_) (fun c_5 => absurd c_5 (by decide))
      refine lv_aload_n hx hb dX7_split_28 rfl (lv_at hl 0 rfl) ?_
      refine va_get (D := D) (ci := 6) (v := .ref h_now) (C := RX7) (T := TX7) (N := 10) hx hb hts hiX7 hown hK hP 0 rfl rfl 0 (by decide) fl10 (fun _ h9 => h9) rfl dX7_split_29 ?_
      refine lv_iload_n hx hb dX7_split_32 rfl (lv_at hl 1 rfl) ?_
      refine hs_cv (va_runV (As := [.int 0]) (rest := []) ⟨hx, hb, hml, hown, hts⟩ (c_splitCell_0 l D k _ h_now n_weights n_kindOf n_light n_heavy n_seenBy n_seenCut n_seenFound) (cwV 1 hts gX7_split_X6_splitCell rfl rfl rfl (by decide +kernel) ⟨Nat.le_of_ble_eq_true rfl, Nat.le_of_ble_eq_true rfl⟩) (hs_preV hK hN (hs_subP (w := [(h_now, .inr (5, [.ref n_weights, .ref n_kindOf, .ref n_light, .ref n_heavy, .ref n_seenBy, .ref n_seenCut, .ref n_seenFound, .int 2, .int 0, .int 0, .int 0, .int 0, .int 2, .int 0, .int 0])), (n_weights, .inl (k 0, 8, .inl (hsw)))]) hP [1, 2] rfl) (hD.sub (ws' := [(h_now, .inr (5, [.ref n_weights, .ref n_kindOf, .ref n_light, .ref n_heavy, .ref n_seenBy, .ref n_seenCut, .ref n_seenFound, .int 2, .int 0, .int 0, .int 0, .int 0, .int 2, .int 0, .int 0])), (n_weights, .inl (k 0, 8, .inl (hsw)))]) [1, 2] (by decide) rfl) (ci := 5) (q0 := 0) rfl rfl) rfl rfl hl.1 rfl (lv_room (Nat.le_of_ble_eq_true rfl)) dX7_split_33 ⟨Nat.le_of_ble_eq_true rfl, Nat.le_of_ble_eq_true rfl⟩) hP hD hS hA [1, 2] [0] [(h, .inr (6, [.ref h_now, .ref h_trial, .ref h_images, .ref h_imageThere, .ref h_teller, .ref h_ranks, .ref h_court, .ref h_sheets, .int 0, .int 0]))] rfl rfl (by decide) (by decide) [0, 1, 2] (fun u_8 => [(h, .inr (6, [.ref h_now, .ref h_trial, .ref h_images, .ref h_imageThere, .ref h_teller, .ref h_ranks, .ref h_court, .ref h_sheets, .int 0, .int 0])), (h_now, .inr (5, [.ref n_weights, .ref n_kindOf, .ref n_light, .ref n_heavy, .ref n_seenBy, .ref n_seenCut, .ref n_seenFound, .int 3, .int 0, .int 0, .int 0, .int 0, .int 2, .int 0, .int 0])), (n_weights, .inl (k 0, 8, .inl (upd (upd (upd hsw 2 1) 0 1) 1 0)))]) (fun _ => rfl) (by decide) (fun u_8 H locs hw_7 hP hD hS => ?_)
      have hP : va_P D vwCl [(h, .inr (6, [.ref h_now, .ref h_trial, .ref h_images, .ref h_imageThere, .ref h_teller, .ref h_ranks, .ref h_court, .ref h_sheets, .int 0, .int 0])), (h_now, .inr (5, [.ref n_weights, .ref n_kindOf, .ref n_light, .ref n_heavy, .ref n_seenBy, .ref n_seenCut, .ref n_seenFound, .int 3, .int 0, .int 0, .int 0, .int 0, .int 2, .int 0, .int 0])), (n_weights, .inl (k 0, 8, .inl (upd (upd (upd hsw 2 1) 0 1) 1 0)))] H := hP
      have hD : va_D A [(h, .inr (6, [.ref h_now, .ref h_trial, .ref h_images, .ref h_imageThere, .ref h_teller, .ref h_ranks, .ref h_court, .ref h_sheets, .int 0, .int 0])), (h_now, .inr (5, [.ref n_weights, .ref n_kindOf, .ref n_light, .ref n_heavy, .ref n_seenBy, .ref n_seenCut, .ref n_seenFound, .int 3, .int 0, .int 0, .int 0, .int 0, .int 2, .int 0, .int 0])), (n_weights, .inl (k 0, 8, .inl (upd (upd (upd hsw 2 1) 0 1) 1 0)))] := hD
      refine lv_aload_n hx hb dX7_split_36 rfl (lv_at hl 0 rfl) ?_
      refine va_get (D := D) (ci := 6) (v := .ref h_now) (C := RX7) (T := TX7) (N := 10) hx hb hts hiX7 hown hK hP 0 rfl rfl 0 (by decide) fl10 (fun _ h9 => h9) rfl dX7_split_37 ?_
      refine va_get (D := D) (ci := 5) (v := .int 3) (C := RX6) (T := TX6) (N := 15) hx hb hts hiX6 hown hK hP 1 rfl rfl 7 (by decide) fl93 (fun _ h9 => h9) rfl dX7_split_40 ?_
      exact hs_iret hx hb hr hlocks hK hP hD hS () [] rfl (by decide) dX7_split_43 (by first | rfl | decide | (simp only [hsb_0, hsb_1] at c_4 c_5; simp [A_split, c_4, c_5]; done) | (simp [A_split, c_4, c_5]; done))
    · refine lv_aload_n hx hb dX7_split_13 rfl (lv_at hl 0 rfl) ?_
      refine va_get (D := D) (ci := 6) (v := .ref h_now) (C := RX7) (T := TX7) (N := 10) hx hb hts hiX7 hown hK hP 0 rfl rfl 0 (by decide) fl10 (fun _ h9 => h9) rfl dX7_split_14 ?_
      refine va_get (D := D) (ci := 5) (v := .int 2) (C := RX6) (T := TX6) (N := 15) hx hb hts hiX6 hown hK hP 1 rfl rfl 7 (by decide) fl93 (fun _ h9 => h9) rfl dX7_split_17 ?_
      refine lv_bipush (v := 8) hx hb dX7_split_20 (by decide) ?_
      refine lv_icmp_lt (tgt := 28) hx hb dX7_split_22 (by decide) (fun c_9 => ?_) (fun c_9 => absurd c_9 (by decide))
      refine lv_aload_n hx hb dX7_split_28 rfl (lv_at hl 0 rfl) ?_
      refine va_get (D := D) (ci := 6) (v := .ref h_now) (C := RX7) (T := TX7) (N := 10) hx hb hts hiX7 hown hK hP 0 rfl rfl 0 (by decide) fl10 (fun _ h9 => h9) rfl dX7_split_29 ?_
      refine lv_iload_n hx hb dX7_split_32 rfl (lv_at hl 1 rfl) ?_
      refine hs_cv (va_runV (As := [.int 1]) (rest := []) ⟨hx, hb, hml, hown, hts⟩ (c_splitCell_1 l D k _ h_now n_weights n_kindOf n_light n_heavy n_seenBy n_seenCut n_seenFound) (cwV 1 hts gX7_split_X6_splitCell rfl rfl rfl (by decide +kernel) ⟨Nat.le_of_ble_eq_true rfl, Nat.le_of_ble_eq_true rfl⟩) (hs_preV hK hN (hs_subP (w := [(h_now, .inr (5, [.ref n_weights, .ref n_kindOf, .ref n_light, .ref n_heavy, .ref n_seenBy, .ref n_seenCut, .ref n_seenFound, .int 2, .int 0, .int 0, .int 0, .int 0, .int 2, .int 0, .int 0])), (n_weights, .inl (k 0, 8, .inl (hsw)))]) hP [1, 2] rfl) (hD.sub (ws' := [(h_now, .inr (5, [.ref n_weights, .ref n_kindOf, .ref n_light, .ref n_heavy, .ref n_seenBy, .ref n_seenCut, .ref n_seenFound, .int 2, .int 0, .int 0, .int 0, .int 0, .int 2, .int 0, .int 0])), (n_weights, .inl (k 0, 8, .inl (hsw)))]) [1, 2] (by decide) rfl) (ci := 5) (q0 := 0) rfl rfl) rfl rfl hl.1 rfl (lv_room (Nat.le_of_ble_eq_true rfl)) dX7_split_33 ⟨Nat.le_of_ble_eq_true rfl, Nat.le_of_ble_eq_true rfl⟩) hP hD hS hA [1, 2] [0] [(h, .inr (6, [.ref h_now, .ref h_trial, .ref h_images, .ref h_imageThere, .ref h_teller, .ref h_ranks, .ref h_court, .ref h_sheets, .int 0, .int 0]))] rfl rfl (by decide) (by decide) [0, 1, 2] (fun u_12 => [(h, .inr (6, [.ref h_now, .ref h_trial, .ref h_images, .ref h_imageThere, .ref h_teller, .ref h_ranks, .ref h_court, .ref h_sheets, .int 0, .int 0])), (h_now, .inr (5, [.ref n_weights, .ref n_kindOf, .ref n_light, .ref n_heavy, .ref n_seenBy, .ref n_seenCut, .ref n_seenFound, .int 3, .int 0, .int 0, .int 0, .int 0, .int 2, .int 0, .int 0])), (n_weights, .inl (k 0, 8, .inl (upd (upd hsw 1 1) 2 0)))]) (fun _ => rfl) (by decide) (fun u_12 H locs hw_11 hP hD hS => ?_)
      have hP : va_P D vwCl [(h, .inr (6, [.ref h_now, .ref h_trial, .ref h_images, .ref h_imageThere, .ref h_teller, .ref h_ranks, .ref h_court, .ref h_sheets, .int 0, .int 0])), (h_now, .inr (5, [.ref n_weights, .ref n_kindOf, .ref n_light, .ref n_heavy, .ref n_seenBy, .ref n_seenCut, .ref n_seenFound, .int 3, .int 0, .int 0, .int 0, .int 0, .int 2, .int 0, .int 0])), (n_weights, .inl (k 0, 8, .inl (upd (upd hsw 1 1) 2 0)))] H := hP
      have hD : va_D A [(h, .inr (6, [.ref h_now, .ref h_trial, .ref h_images, .ref h_imageThere, .ref h_teller, .ref h_ranks, .ref h_court, .ref h_sheets, .int 0, .int 0])), (h_now, .inr (5, [.ref n_weights, .ref n_kindOf, .ref n_light, .ref n_heavy, .ref n_seenBy, .ref n_seenCut, .ref n_seenFound, .int 3, .int 0, .int 0, .int 0, .int 0, .int 2, .int 0, .int 0])), (n_weights, .inl (k 0, 8, .inl (upd (upd hsw 1 1) 2 0)))] := hD
      refine lv_aload_n hx hb dX7_split_36 rfl (lv_at hl 0 rfl) ?_
      refine va_get (D := D) (ci := 6) (v := .ref h_now) (C := RX7) (T := TX7) (N := 10) hx hb hts hiX7 hown hK hP 0 rfl rfl 0 (by decide) fl10 (fun _ h9 => h9) rfl dX7_split_37 ?_
      refine va_get (D := D) (ci := 5) (v := .int 3) (C := RX6) (T := TX6) (N := 15) hx hb hts hiX6 hown hK hP 1 rfl rfl 7 (by decide) fl93 (fun _ h9 => h9) rfl dX7_split_40 ?_
      exact hs_iret hx hb hr hlocks hK hP hD hS () [] rfl (by decide) dX7_split_43 (by first | rfl | decide | (simp only [hsb_0, hsb_1] at c_4 c_9; simp [A_split, c_4, c_9]; done) | (simp [A_split, c_4, c_9]; done))
  · refine lv_iconst (v := (-1)) hx hb dX7_split_11 (by decide) ?_
    exact hs_iret hx hb hr hlocks hK hP hD hS () [] rfl (by decide) dX7_split_12 (by first | rfl | decide | (simp only [hsb_0, hsb_1] at c_4; simp [A_split, c_4]; done) | (simp [A_split, c_4]; done))

set_option maxHeartbeats 4000000 in
set_option maxRecDepth 100000 in
theorem p_join (l : Launch) (D : va_G) (k : Nat → ClassId) (sz : Nat) (h : Nat) (h_now : Nat) (h_trial : Nat) (h_images : Nat) (h_imageThere : Nat) (h_teller : Nat) (h_ranks : Nat) (h_court : Nat) (h_sheets : Nat) (n_weights : Nat) (n_kindOf : Nat) (n_light : Nat) (n_heavy : Nat) (n_seenBy : Nat) (n_seenCut : Nat) (n_seenFound : Nat) (i : Int32)  : MI l yX7_join wsX7_join ({ frames := 2, cells := 0, slots := 0, locals := 43 }) D k [.ref h, .int i] [(h, .inr (6, [.ref h_now, .ref h_trial, .ref h_images, .ref h_imageThere, .ref h_teller, .ref h_ranks, .ref h_court, .ref h_sheets, .int 0, .int 0])), (h_now, .inr (5, [.ref n_weights, .ref n_kindOf, .ref n_light, .ref n_heavy, .ref n_seenBy, .ref n_seenCut, .ref n_seenFound, .int 2, .int 0, .int 0, .int 0, .int 0, .int 2, .int 0, .int 0])), (n_weights, .inl (k 0, 8, .inl (hsw)))] sz (fun (r : Int32) (u : Unit) => r = A_join i) (fun (u : Unit) => []) := by
  refine Met.ofW (cc := cX7_join) (maxL := 2) (ret := (some .int)) (by decide) rfl ?_
  intro p e s m args below meth c s₁ B hml hv
  obtain ⟨rfl, hsz, hP, hK, hD0, hN⟩ := hv
  have hx := B.exec
  have hb := B.bytes
  have hr := B.returns
  have hlocks := B.notSynchronized
  have hts := atoms_spec (ws := wsX7_join) B.pre
  have hown : s.vm.findClass RX7 = some m.cls := findClass_of_methodNamed B.named
  have hiX6 : ∀ w ∈ u_ws RX6 TX6 15, w ∈ wsX7_join := by decide +kernel
  have hiX7 : ∀ w ∈ u_ws RX7 TX7 10, w ∈ wsX7_join := by decide +kernel
  have fl10 := hts (.fieldLink RX7 10 "HalfScales" "now" "LHalfScales$Thing;") (by decide +kernel)
  have fl93 := hts (.fieldLink RX7 93 "HalfScales$Thing" "cellCount" "I") (by decide +kernel)
  subst hsz
  have hD := hD0.self (sz := s.heap.size)
  generalize hAe : va_A [(h, .inr (6, [.ref h_now, .ref h_trial, .ref h_images, .ref h_imageThere, .ref h_teller, .ref h_ranks, .ref h_court, .ref h_sheets, .int 0, .int 0])), (h_now, .inr (5, [.ref n_weights, .ref n_kindOf, .ref n_light, .ref n_heavy, .ref n_seenBy, .ref n_seenCut, .ref n_seenFound, .int 2, .int 0, .int 0, .int 0, .int 0, .int 2, .int 0, .int 0])), (n_weights, .inl (k 0, 8, .inl (hsw)))] s.heap.size = A at hD ⊢
  have hA : ∀ q : Nat, s.heap.size ≤ q → A q := fun q h => by rw [← hAe]; exact Or.inr h
  have hS : va_S A s.heap s.heap [] := va_S.rf
  have hl := lv_entry ([.ref h, .int i]) (n := 2) (Nat.le_of_ble_eq_true rfl)
  rw [lg_entry_eq]
  generalize (lg_sl ([.ref h, .int i]) ++ List.replicate (2 - (lg_sl ([.ref h, .int i])).length) Slot.unset).toArray = ls at hl ⊢
  have hl : lv_has ls 2 [(0, .ref h), (1, .int i)] := hl
  have hP : va_P D vwCl [(h, .inr (6, [.ref h_now, .ref h_trial, .ref h_images, .ref h_imageThere, .ref h_teller, .ref h_ranks, .ref h_court, .ref h_sheets, .int 0, .int 0])), (h_now, .inr (5, [.ref n_weights, .ref n_kindOf, .ref n_light, .ref n_heavy, .ref n_seenBy, .ref n_seenCut, .ref n_seenFound, .int 2, .int 0, .int 0, .int 0, .int 0, .int 2, .int 0, .int 0])), (n_weights, .inl (k 0, 8, .inl (hsw)))] s.heap := hP
  refine lv_aload_n hx hb dX7_join_0 rfl (lv_at hl 0 rfl) ?_
  refine va_get (D := D) (ci := 6) (v := .ref h_now) (C := RX7) (T := TX7) (N := 10) hx hb hts hiX7 hown hK hP 0 rfl rfl 0 (by decide) fl10 (fun _ h9 => h9) rfl dX7_join_1 ?_
  refine lv_iload_n hx hb dX7_join_4 rfl (lv_at hl 1 rfl) ?_
  refine hs_ci (va_runV (As := [.int i]) (rest := []) ⟨hx, hb, hml, hown, hts⟩ (c_isCell0 l D k _ h_now n_weights n_kindOf n_light n_heavy n_seenBy n_seenCut n_seenFound i) (cwV 1 hts gX7_join_X6_isCell rfl rfl rfl (by decide +kernel) ⟨Nat.le_of_ble_eq_true rfl, Nat.le_of_ble_eq_true rfl⟩) (hs_preV hK hN (hs_subP (w := [(h_now, .inr (5, [.ref n_weights, .ref n_kindOf, .ref n_light, .ref n_heavy, .ref n_seenBy, .ref n_seenCut, .ref n_seenFound, .int 2, .int 0, .int 0, .int 0, .int 0, .int 2, .int 0, .int 0]))]) hP [1] rfl) (hD.sub (ws' := [(h_now, .inr (5, [.ref n_weights, .ref n_kindOf, .ref n_light, .ref n_heavy, .ref n_seenBy, .ref n_seenCut, .ref n_seenFound, .int 2, .int 0, .int 0, .int 0, .int 0, .int 2, .int 0, .int 0]))]) [1] (by decide) rfl) (ci := 5) (q0 := 0) rfl rfl) rfl rfl hl.1 rfl (lv_room (Nat.le_of_ble_eq_true rfl)) dX7_join_5 ⟨Nat.le_of_ble_eq_true rfl, Nat.le_of_ble_eq_true rfl⟩) hP hD hS hA [1] [0, 2] [(h, .inr (6, [.ref h_now, .ref h_trial, .ref h_images, .ref h_imageThere, .ref h_teller, .ref h_ranks, .ref h_court, .ref h_sheets, .int 0, .int 0])), (n_weights, .inl (k 0, 8, .inl (hsw)))] rfl rfl (by decide) (by decide) [0, 2, 1] (fun u_3 => [(h, .inr (6, [.ref h_now, .ref h_trial, .ref h_images, .ref h_imageThere, .ref h_teller, .ref h_ranks, .ref h_court, .ref h_sheets, .int 0, .int 0])), (h_now, .inr (5, [.ref n_weights, .ref n_kindOf, .ref n_light, .ref n_heavy, .ref n_seenBy, .ref n_seenCut, .ref n_seenFound, .int 2, .int 0, .int 0, .int 0, .int 0, .int 2, .int 0, .int 0])), (n_weights, .inl (k 0, 8, .inl (hsw)))]) (fun _ => rfl) (by decide) (fun r_1 u_3 H locs hw_2 hP hD hS => ?_)
  have hP : va_P D vwCl [(h, .inr (6, [.ref h_now, .ref h_trial, .ref h_images, .ref h_imageThere, .ref h_teller, .ref h_ranks, .ref h_court, .ref h_sheets, .int 0, .int 0])), (h_now, .inr (5, [.ref n_weights, .ref n_kindOf, .ref n_light, .ref n_heavy, .ref n_seenBy, .ref n_seenCut, .ref n_seenFound, .int 2, .int 0, .int 0, .int 0, .int 0, .int 2, .int 0, .int 0])), (n_weights, .inl (k 0, 8, .inl (hsw)))] H := hP
  have hD : va_D A [(h, .inr (6, [.ref h_now, .ref h_trial, .ref h_images, .ref h_imageThere, .ref h_teller, .ref h_ranks, .ref h_court, .ref h_sheets, .int 0, .int 0])), (h_now, .inr (5, [.ref n_weights, .ref n_kindOf, .ref n_light, .ref n_heavy, .ref n_seenBy, .ref n_seenCut, .ref n_seenFound, .int 2, .int 0, .int 0, .int 0, .int 0, .int 2, .int 0, .int 0])), (n_weights, .inl (k 0, 8, .inl (hsw)))] := hD
  refine hs_topi (hsb (hsin i 0 1)) hw_2 ?_
  refine lv_if_eq (tgt := 24) hx hb dX7_join_8 (by decide) (fun c_4 => ?_) (fun c_4 => ?_)
  · refine lv_iconst (v := (-1)) hx hb dX7_join_24 (by decide) ?_
    exact hs_iret hx hb hr hlocks hK hP hD hS () [] rfl (by decide) dX7_join_25 (by first | rfl | decide | (simp only [hsb_0, hsb_1] at c_4; simp [A_join, c_4]; done) | (simp [A_join, c_4]; done) | exact hsA_join_bad (hs_n0 c_4))
  · rcases hs_v01 (hs_nb c_4) with rfl | rfl
    · refine lv_aload_n hx hb dX7_join_11 rfl (lv_at hl 0 rfl) ?_
      refine va_get (D := D) (ci := 6) (v := .ref h_now) (C := RX7) (T := TX7) (N := 10) hx hb hts hiX7 hown hK hP 0 rfl rfl 0 (by decide) fl10 (fun _ h9 => h9) rfl dX7_join_12 ?_
      refine lv_iload_n hx hb dX7_join_15 rfl (lv_at hl 1 rfl) ?_
      refine lv_iconst (v := 1) hx hb dX7_join_16 (by decide) ?_
      refine lv_iadd hx hb dX7_join_17 ?_
      refine hs_topi 1 (by first | rfl | decide +kernel) ?_
      refine hs_ci (va_runV (As := [.int 1]) (rest := []) ⟨hx, hb, hml, hown, hts⟩ (c_isCell0 l D k _ h_now n_weights n_kindOf n_light n_heavy n_seenBy n_seenCut n_seenFound 1) (cwV 1 hts gX7_join_X6_isCell rfl rfl rfl (by decide +kernel) ⟨Nat.le_of_ble_eq_true rfl, Nat.le_of_ble_eq_true rfl⟩) (hs_preV hK hN (hs_subP (w := [(h_now, .inr (5, [.ref n_weights, .ref n_kindOf, .ref n_light, .ref n_heavy, .ref n_seenBy, .ref n_seenCut, .ref n_seenFound, .int 2, .int 0, .int 0, .int 0, .int 0, .int 2, .int 0, .int 0]))]) hP [1] rfl) (hD.sub (ws' := [(h_now, .inr (5, [.ref n_weights, .ref n_kindOf, .ref n_light, .ref n_heavy, .ref n_seenBy, .ref n_seenCut, .ref n_seenFound, .int 2, .int 0, .int 0, .int 0, .int 0, .int 2, .int 0, .int 0]))]) [1] (by decide) rfl) (ci := 5) (q0 := 0) rfl rfl) rfl rfl hl.1 rfl (lv_room (Nat.le_of_ble_eq_true rfl)) dX7_join_18 ⟨Nat.le_of_ble_eq_true rfl, Nat.le_of_ble_eq_true rfl⟩) hP hD hS hA [1] [0, 2] [(h, .inr (6, [.ref h_now, .ref h_trial, .ref h_images, .ref h_imageThere, .ref h_teller, .ref h_ranks, .ref h_court, .ref h_sheets, .int 0, .int 0])), (n_weights, .inl (k 0, 8, .inl (hsw)))] rfl rfl (by decide) (by decide) [0, 2, 1] (fun u_7 => [(h, .inr (6, [.ref h_now, .ref h_trial, .ref h_images, .ref h_imageThere, .ref h_teller, .ref h_ranks, .ref h_court, .ref h_sheets, .int 0, .int 0])), (h_now, .inr (5, [.ref n_weights, .ref n_kindOf, .ref n_light, .ref n_heavy, .ref n_seenBy, .ref n_seenCut, .ref n_seenFound, .int 2, .int 0, .int 0, .int 0, .int 0, .int 2, .int 0, .int 0])), (n_weights, .inl (k 0, 8, .inl (hsw)))]) (fun _ => rfl) (by decide) (fun r_5 u_7 H locs hw_6 hP hD hS => ?_)
      have hP : va_P D vwCl [(h, .inr (6, [.ref h_now, .ref h_trial, .ref h_images, .ref h_imageThere, .ref h_teller, .ref h_ranks, .ref h_court, .ref h_sheets, .int 0, .int 0])), (h_now, .inr (5, [.ref n_weights, .ref n_kindOf, .ref n_light, .ref n_heavy, .ref n_seenBy, .ref n_seenCut, .ref n_seenFound, .int 2, .int 0, .int 0, .int 0, .int 0, .int 2, .int 0, .int 0])), (n_weights, .inl (k 0, 8, .inl (hsw)))] H := hP
      have hD : va_D A [(h, .inr (6, [.ref h_now, .ref h_trial, .ref h_images, .ref h_imageThere, .ref h_teller, .ref h_ranks, .ref h_court, .ref h_sheets, .int 0, .int 0])), (h_now, .inr (5, [.ref n_weights, .ref n_kindOf, .ref n_light, .ref n_heavy, .ref n_seenBy, .ref n_seenCut, .ref n_seenFound, .int 2, .int 0, .int 0, .int 0, .int 0, .int 2, .int 0, .int 0])), (n_weights, .inl (k 0, 8, .inl (hsw)))] := hD
      refine hs_topi 1 (hw_6.trans (by first | rfl | decide +kernel | rfl)) ?_
      refine lv_if_ne (tgt := 26) hx hb dX7_join_21 (by decide) (fun c_8 => ?_) (fun c_8 => absurd c_8 (by decide))
      refine lv_aload_n hx hb dX7_join_26 rfl (lv_at hl 0 rfl) ?_
      refine va_get (D := D) (ci := 6) (v := .ref h_now) (C := RX7) (T := TX7) (N := 10) hx hb hts hiX7 hown hK hP 0 rfl rfl 0 (by decide) fl10 (fun _ h9 => h9) rfl dX7_join_27 ?_
      refine va_get (D := D) (ci := 5) (v := .int 2) (C := RX6) (T := TX6) (N := 15) hx hb hts hiX6 hown hK hP 1 rfl rfl 7 (by decide) fl93 (fun _ h9 => h9) rfl dX7_join_30 ?_
      refine lv_iconst (v := 2) hx hb dX7_join_33 (by decide) ?_
      refine lv_icmp_gt (tgt := 40) hx hb dX7_join_34 (by decide) (fun c_9 => absurd c_9 (by decide)) (fun c_9 => ?_)
      refine lv_bipush (v := (-2)) hx hb dX7_join_37 (by decide) ?_
      exact hs_iret hx hb hr hlocks hK hP hD hS () [] rfl (by decide) dX7_join_39 (by first | rfl | decide | (simp only [hsb_0, hsb_1] at c_4 c_8 c_9; simp [A_join, c_4, c_8, c_9]; done) | (simp [A_join, c_4, c_8, c_9]; done) | exact hsA_join_bad (hs_n0 c_4))
    · refine lv_aload_n hx hb dX7_join_11 rfl (lv_at hl 0 rfl) ?_
      refine va_get (D := D) (ci := 6) (v := .ref h_now) (C := RX7) (T := TX7) (N := 10) hx hb hts hiX7 hown hK hP 0 rfl rfl 0 (by decide) fl10 (fun _ h9 => h9) rfl dX7_join_12 ?_
      refine lv_iload_n hx hb dX7_join_15 rfl (lv_at hl 1 rfl) ?_
      refine lv_iconst (v := 1) hx hb dX7_join_16 (by decide) ?_
      refine lv_iadd hx hb dX7_join_17 ?_
      refine hs_topi 2 (by first | rfl | decide +kernel) ?_
      refine hs_ci (va_runV (As := [.int 2]) (rest := []) ⟨hx, hb, hml, hown, hts⟩ (c_isCell0 l D k _ h_now n_weights n_kindOf n_light n_heavy n_seenBy n_seenCut n_seenFound 2) (cwV 1 hts gX7_join_X6_isCell rfl rfl rfl (by decide +kernel) ⟨Nat.le_of_ble_eq_true rfl, Nat.le_of_ble_eq_true rfl⟩) (hs_preV hK hN (hs_subP (w := [(h_now, .inr (5, [.ref n_weights, .ref n_kindOf, .ref n_light, .ref n_heavy, .ref n_seenBy, .ref n_seenCut, .ref n_seenFound, .int 2, .int 0, .int 0, .int 0, .int 0, .int 2, .int 0, .int 0]))]) hP [1] rfl) (hD.sub (ws' := [(h_now, .inr (5, [.ref n_weights, .ref n_kindOf, .ref n_light, .ref n_heavy, .ref n_seenBy, .ref n_seenCut, .ref n_seenFound, .int 2, .int 0, .int 0, .int 0, .int 0, .int 2, .int 0, .int 0]))]) [1] (by decide) rfl) (ci := 5) (q0 := 0) rfl rfl) rfl rfl hl.1 rfl (lv_room (Nat.le_of_ble_eq_true rfl)) dX7_join_18 ⟨Nat.le_of_ble_eq_true rfl, Nat.le_of_ble_eq_true rfl⟩) hP hD hS hA [1] [0, 2] [(h, .inr (6, [.ref h_now, .ref h_trial, .ref h_images, .ref h_imageThere, .ref h_teller, .ref h_ranks, .ref h_court, .ref h_sheets, .int 0, .int 0])), (n_weights, .inl (k 0, 8, .inl (hsw)))] rfl rfl (by decide) (by decide) [0, 2, 1] (fun u_12 => [(h, .inr (6, [.ref h_now, .ref h_trial, .ref h_images, .ref h_imageThere, .ref h_teller, .ref h_ranks, .ref h_court, .ref h_sheets, .int 0, .int 0])), (h_now, .inr (5, [.ref n_weights, .ref n_kindOf, .ref n_light, .ref n_heavy, .ref n_seenBy, .ref n_seenCut, .ref n_seenFound, .int 2, .int 0, .int 0, .int 0, .int 0, .int 2, .int 0, .int 0])), (n_weights, .inl (k 0, 8, .inl (hsw)))]) (fun _ => rfl) (by decide) (fun r_10 u_12 H locs hw_11 hP hD hS => ?_)
      have hP : va_P D vwCl [(h, .inr (6, [.ref h_now, .ref h_trial, .ref h_images, .ref h_imageThere, .ref h_teller, .ref h_ranks, .ref h_court, .ref h_sheets, .int 0, .int 0])), (h_now, .inr (5, [.ref n_weights, .ref n_kindOf, .ref n_light, .ref n_heavy, .ref n_seenBy, .ref n_seenCut, .ref n_seenFound, .int 2, .int 0, .int 0, .int 0, .int 0, .int 2, .int 0, .int 0])), (n_weights, .inl (k 0, 8, .inl (hsw)))] H := hP
      have hD : va_D A [(h, .inr (6, [.ref h_now, .ref h_trial, .ref h_images, .ref h_imageThere, .ref h_teller, .ref h_ranks, .ref h_court, .ref h_sheets, .int 0, .int 0])), (h_now, .inr (5, [.ref n_weights, .ref n_kindOf, .ref n_light, .ref n_heavy, .ref n_seenBy, .ref n_seenCut, .ref n_seenFound, .int 2, .int 0, .int 0, .int 0, .int 0, .int 2, .int 0, .int 0])), (n_weights, .inl (k 0, 8, .inl (hsw)))] := hD
      refine hs_topi 0 (hw_11.trans (by first | rfl | decide +kernel | rfl)) ?_
      refine lv_if_ne (tgt := 26) hx hb dX7_join_21 (by decide) (fun c_13 => absurd c_13 (by decide)) (fun c_13 => ?_)
      refine lv_iconst (v := (-1)) hx hb dX7_join_24 (by decide) ?_
      exact hs_iret hx hb hr hlocks hK hP hD hS () [] rfl (by decide) dX7_join_25 (by first | rfl | decide | (simp only [hsb_0, hsb_1] at c_4 c_13; simp [A_join, c_4, c_13]; done) | (simp [A_join, c_4, c_13]; done) | exact hsA_join_bad (hs_n0 c_4))

set_option maxHeartbeats 4000000 in
set_option maxRecDepth 100000 in
theorem p_teach (l : Launch) (D : va_G) (k : Nat → ClassId) (sz : Nat) (h : Nat) (h_now : Nat) (h_trial : Nat) (h_images : Nat) (h_imageThere : Nat) (h_teller : Nat) (h_ranks : Nat) (h_court : Nat) (h_sheets : Nat) (n_weights : Nat) (n_kindOf : Nat) (n_light : Nat) (n_heavy : Nat) (n_seenBy : Nat) (n_seenCut : Nat) (n_seenFound : Nat) (i : Int32) (v : Int32)  : MI l yX7_teach wsX7_teach ({ frames := 2, cells := 0, slots := 0, locals := 43 }) D k [.ref h, .int i, .int v] [(h, .inr (6, [.ref h_now, .ref h_trial, .ref h_images, .ref h_imageThere, .ref h_teller, .ref h_ranks, .ref h_court, .ref h_sheets, .int 0, .int 0])), (h_now, .inr (5, [.ref n_weights, .ref n_kindOf, .ref n_light, .ref n_heavy, .ref n_seenBy, .ref n_seenCut, .ref n_seenFound, .int 2, .int 0, .int 0, .int 0, .int 0, .int 2, .int 0, .int 0]))] sz (fun (r : Int32) (u : Unit) => r = A_teach i v) (fun (u : Unit) => []) := by
  refine Met.ofW (cc := cX7_teach) (maxL := 4) (ret := (some .int)) (by decide) rfl ?_
  intro p e s m args below meth c s₁ B hml hv
  obtain ⟨rfl, hsz, hP, hK, hD0, hN⟩ := hv
  have hx := B.exec
  have hb := B.bytes
  have hr := B.returns
  have hlocks := B.notSynchronized
  have hts := atoms_spec (ws := wsX7_teach) B.pre
  have hown : s.vm.findClass RX7 = some m.cls := findClass_of_methodNamed B.named
  have hiX7 : ∀ w ∈ u_ws RX7 TX7 10, w ∈ wsX7_teach := by decide +kernel
  have fl10 := hts (.fieldLink RX7 10 "HalfScales" "now" "LHalfScales$Thing;") (by decide +kernel)
  subst hsz
  have hD := hD0.self (sz := s.heap.size)
  generalize hAe : va_A [(h, .inr (6, [.ref h_now, .ref h_trial, .ref h_images, .ref h_imageThere, .ref h_teller, .ref h_ranks, .ref h_court, .ref h_sheets, .int 0, .int 0])), (h_now, .inr (5, [.ref n_weights, .ref n_kindOf, .ref n_light, .ref n_heavy, .ref n_seenBy, .ref n_seenCut, .ref n_seenFound, .int 2, .int 0, .int 0, .int 0, .int 0, .int 2, .int 0, .int 0]))] s.heap.size = A at hD ⊢
  have hA : ∀ q : Nat, s.heap.size ≤ q → A q := fun q h => by rw [← hAe]; exact Or.inr h
  have hS : va_S A s.heap s.heap [] := va_S.rf
  have hl := lv_entry ([.ref h, .int i, .int v]) (n := 4) (Nat.le_of_ble_eq_true rfl)
  rw [lg_entry_eq]
  generalize (lg_sl ([.ref h, .int i, .int v]) ++ List.replicate (4 - (lg_sl ([.ref h, .int i, .int v])).length) Slot.unset).toArray = ls at hl ⊢
  have hl : lv_has ls 4 [(0, .ref h), (1, .int i), (2, .int v)] := hl
  have hP : va_P D vwCl [(h, .inr (6, [.ref h_now, .ref h_trial, .ref h_images, .ref h_imageThere, .ref h_teller, .ref h_ranks, .ref h_court, .ref h_sheets, .int 0, .int 0])), (h_now, .inr (5, [.ref n_weights, .ref n_kindOf, .ref n_light, .ref n_heavy, .ref n_seenBy, .ref n_seenCut, .ref n_seenFound, .int 2, .int 0, .int 0, .int 0, .int 0, .int 2, .int 0, .int 0]))] s.heap := hP
  refine lv_aload_n hx hb dX7_teach_0 rfl (lv_at hl 0 rfl) ?_
  refine va_get (D := D) (ci := 6) (v := .ref h_now) (C := RX7) (T := TX7) (N := 10) hx hb hts hiX7 hown hK hP 0 rfl rfl 0 (by decide) fl10 (fun _ h9 => h9) rfl dX7_teach_1 ?_
  refine lv_iload_n hx hb dX7_teach_4 rfl (lv_at hl 1 rfl) ?_
  refine hs_ci (va_runV (As := [.int i]) (rest := []) ⟨hx, hb, hml, hown, hts⟩ (c_isPerson0 l D k _ h_now n_weights n_kindOf n_light n_heavy n_seenBy n_seenCut n_seenFound i) (cwV 1 hts gX7_teach_X6_isPerson rfl rfl rfl (by decide +kernel) ⟨Nat.le_of_ble_eq_true rfl, Nat.le_of_ble_eq_true rfl⟩) (hs_preV hK hN (hs_subP (w := [(h_now, .inr (5, [.ref n_weights, .ref n_kindOf, .ref n_light, .ref n_heavy, .ref n_seenBy, .ref n_seenCut, .ref n_seenFound, .int 2, .int 0, .int 0, .int 0, .int 0, .int 2, .int 0, .int 0]))]) hP [1] rfl) (hD.sub (ws' := [(h_now, .inr (5, [.ref n_weights, .ref n_kindOf, .ref n_light, .ref n_heavy, .ref n_seenBy, .ref n_seenCut, .ref n_seenFound, .int 2, .int 0, .int 0, .int 0, .int 0, .int 2, .int 0, .int 0]))]) [1] (by decide) rfl) (ci := 5) (q0 := 0) rfl rfl) rfl rfl hl.1 rfl (lv_room (Nat.le_of_ble_eq_true rfl)) dX7_teach_5 ⟨Nat.le_of_ble_eq_true rfl, Nat.le_of_ble_eq_true rfl⟩) hP hD hS hA [1] [0] [(h, .inr (6, [.ref h_now, .ref h_trial, .ref h_images, .ref h_imageThere, .ref h_teller, .ref h_ranks, .ref h_court, .ref h_sheets, .int 0, .int 0]))] rfl rfl (by decide) (by decide) [0, 1] (fun u_3 => [(h, .inr (6, [.ref h_now, .ref h_trial, .ref h_images, .ref h_imageThere, .ref h_teller, .ref h_ranks, .ref h_court, .ref h_sheets, .int 0, .int 0])), (h_now, .inr (5, [.ref n_weights, .ref n_kindOf, .ref n_light, .ref n_heavy, .ref n_seenBy, .ref n_seenCut, .ref n_seenFound, .int 2, .int 0, .int 0, .int 0, .int 0, .int 2, .int 0, .int 0]))]) (fun _ => rfl) (by decide) (fun r_1 u_3 H locs hw_2 hP hD hS => ?_)
  have hP : va_P D vwCl [(h, .inr (6, [.ref h_now, .ref h_trial, .ref h_images, .ref h_imageThere, .ref h_teller, .ref h_ranks, .ref h_court, .ref h_sheets, .int 0, .int 0])), (h_now, .inr (5, [.ref n_weights, .ref n_kindOf, .ref n_light, .ref n_heavy, .ref n_seenBy, .ref n_seenCut, .ref n_seenFound, .int 2, .int 0, .int 0, .int 0, .int 0, .int 2, .int 0, .int 0]))] H := hP
  have hD : va_D A [(h, .inr (6, [.ref h_now, .ref h_trial, .ref h_images, .ref h_imageThere, .ref h_teller, .ref h_ranks, .ref h_court, .ref h_sheets, .int 0, .int 0])), (h_now, .inr (5, [.ref n_weights, .ref n_kindOf, .ref n_light, .ref n_heavy, .ref n_seenBy, .ref n_seenCut, .ref n_seenFound, .int 2, .int 0, .int 0, .int 0, .int 0, .int 2, .int 0, .int 0]))] := hD
  refine hs_topi 0 (hw_2.trans (by first | rfl | decide +kernel | rfl)) ?_
  refine lv_if_eq (tgt := 20) hx hb dX7_teach_8 (by decide) (fun c_4 => ?_) (fun c_4 => absurd c_4 (by decide))
  refine lv_iconst (v := (-1)) hx hb dX7_teach_20 (by decide) ?_
  exact hs_iret hx hb hr hlocks hK hP hD hS () [] rfl (by decide) dX7_teach_21 (by first | rfl | decide | (simp only [hsb_0, hsb_1] at c_4; simp [A_teach, c_4]; done) | (simp [A_teach, c_4]; done))

set_option maxHeartbeats 4000000 in
set_option maxRecDepth 100000 in
theorem p_set (l : Launch) (D : va_G) (k : Nat → ClassId) (sz : Nat) (h : Nat) (h_now : Nat) (h_trial : Nat) (h_images : Nat) (h_imageThere : Nat) (h_teller : Nat) (h_ranks : Nat) (h_court : Nat) (h_sheets : Nat) (n_weights : Nat) (n_kindOf : Nat) (n_light : Nat) (n_heavy : Nat) (n_seenBy : Nat) (n_seenCut : Nat) (n_seenFound : Nat) (what : Int32) (v : Int32)  : MI l yX7_set wsX7_set ({ frames := 1, cells := 0, slots := 0, locals := 22 }) D k [.ref h, .int what, .int v] [(h, .inr (6, [.ref h_now, .ref h_trial, .ref h_images, .ref h_imageThere, .ref h_teller, .ref h_ranks, .ref h_court, .ref h_sheets, .int 0, .int 0])), (h_now, .inr (5, [.ref n_weights, .ref n_kindOf, .ref n_light, .ref n_heavy, .ref n_seenBy, .ref n_seenCut, .ref n_seenFound, .int 2, .int 0, .int 0, .int 0, .int 0, .int 2, .int 0, .int 0]))] sz (fun (r : Int32) (u : Unit) => r = A_set what v) (fun (u : Unit) => []) := by
  refine Met.ofW (cc := cX7_set) (maxL := 4) (ret := (some .int)) (by decide) rfl ?_
  intro p e s m args below meth c s₁ B hml hv
  obtain ⟨rfl, hsz, hP, hK, hD0, hN⟩ := hv
  have hx := B.exec
  have hb := B.bytes
  have hr := B.returns
  have hlocks := B.notSynchronized
  have hts := atoms_spec (ws := wsX7_set) B.pre
  have hown : s.vm.findClass RX7 = some m.cls := findClass_of_methodNamed B.named
  have hiX6 : ∀ w ∈ u_ws RX6 TX6 15, w ∈ wsX7_set := by decide +kernel
  have hiX7 : ∀ w ∈ u_ws RX7 TX7 10, w ∈ wsX7_set := by decide +kernel
  have fl10 := hts (.fieldLink RX7 10 "HalfScales" "now" "LHalfScales$Thing;") (by decide +kernel)
  have fl102 := hts (.fieldLink RX7 102 "HalfScales$Thing" "fine" "I") (by decide +kernel)
  have fl99 := hts (.fieldLink RX7 99 "HalfScales$Thing" "slip" "I") (by decide +kernel)
  subst hsz
  have hD := hD0.self (sz := s.heap.size)
  generalize hAe : va_A [(h, .inr (6, [.ref h_now, .ref h_trial, .ref h_images, .ref h_imageThere, .ref h_teller, .ref h_ranks, .ref h_court, .ref h_sheets, .int 0, .int 0])), (h_now, .inr (5, [.ref n_weights, .ref n_kindOf, .ref n_light, .ref n_heavy, .ref n_seenBy, .ref n_seenCut, .ref n_seenFound, .int 2, .int 0, .int 0, .int 0, .int 0, .int 2, .int 0, .int 0]))] s.heap.size = A at hD ⊢
  have hA : ∀ q : Nat, s.heap.size ≤ q → A q := fun q h => by rw [← hAe]; exact Or.inr h
  have hS : va_S A s.heap s.heap [] := va_S.rf
  have hl := lv_entry ([.ref h, .int what, .int v]) (n := 4) (Nat.le_of_ble_eq_true rfl)
  rw [lg_entry_eq]
  generalize (lg_sl ([.ref h, .int what, .int v]) ++ List.replicate (4 - (lg_sl ([.ref h, .int what, .int v])).length) Slot.unset).toArray = ls at hl ⊢
  have hl : lv_has ls 4 [(0, .ref h), (1, .int what), (2, .int v)] := hl
  have hP : va_P D vwCl [(h, .inr (6, [.ref h_now, .ref h_trial, .ref h_images, .ref h_imageThere, .ref h_teller, .ref h_ranks, .ref h_court, .ref h_sheets, .int 0, .int 0])), (h_now, .inr (5, [.ref n_weights, .ref n_kindOf, .ref n_light, .ref n_heavy, .ref n_seenBy, .ref n_seenCut, .ref n_seenFound, .int 2, .int 0, .int 0, .int 0, .int 0, .int 2, .int 0, .int 0]))] s.heap := hP
  refine lv_iload_n hx hb dX7_set_0 rfl (lv_at hl 1 rfl) ?_
  refine lv_iconst (v := 2) hx hb dX7_set_1 (by decide) ?_
  refine lv_icmp_ne (tgt := 33) hx hb dX7_set_2 (by decide) (fun c_1 => ?_) (fun c_1 => ?_)
  · refine lv_iload_n hx hb dX7_set_33 rfl (lv_at hl 1 rfl) ?_
    refine lv_iconst (v := 3) hx hb dX7_set_34 (by decide) ?_
    refine lv_icmp_ne (tgt := 66) hx hb dX7_set_35 (by decide) (fun c_2 => ?_) (fun c_2 => ?_)
    · refine lv_iconst (v := (-1)) hx hb dX7_set_66 (by decide) ?_
      exact hs_iret hx hb hr hlocks hK hP hD hS () [] rfl (by decide) dX7_set_67 (by first | rfl | decide | (simp only [hsb_0, hsb_1] at c_1 c_2; simp [A_set, c_1, c_2]; done) | (simp [A_set, c_1, c_2]; done) | (simp [A_set, hs_32, c_1, c_2]; done) | exact hsA_set_bad (hs_n0 c_1))
    · subst c_2
      refine lv_iload_n hx hb dX7_set_38 rfl (lv_at hl 2 rfl) ?_
      refine lv_iconst (v := 0) hx hb dX7_set_39 (by decide) ?_
      refine lv_bipush (v := 99) hx hb dX7_set_40 (by decide) ?_
      refine hs_pi (va_runS (As := [.int v, .int 0, .int 99]) (rest := []) ⟨hx, hb, hml, hown, hts⟩ (c_within l D k _ v 0 99) (va_cwS 3 hts gX7_set_X7_within rfl rfl rfl (by decide +kernel) ⟨Nat.le_of_ble_eq_true rfl, Nat.le_of_ble_eq_true rfl⟩) (hs_preS hK hN (hs_subP (w := []) hP [] rfl) (hD.sub (ws' := []) [] (by decide) rfl)) rfl rfl hl.1 rfl (lv_room (Nat.le_of_ble_eq_true rfl)) dX7_set_42 ⟨Nat.le_of_ble_eq_true rfl, Nat.le_of_ble_eq_true rfl⟩) hP hD hS hA (fun r_3 u_5 H locs hw_4 hP hS => ?_)
      refine hs_topi (hsb (hsin v 0 99)) hw_4 ?_
      refine lv_if_eq (tgt := 66) hx hb dX7_set_45 (by decide) (fun c_6 => ?_) (fun c_6 => ?_)
      · refine lv_iconst (v := (-1)) hx hb dX7_set_66 (by decide) ?_
        exact hs_iret hx hb hr hlocks hK hP hD hS () [] rfl (by decide) dX7_set_67 (by first | rfl | decide | (simp only [hsb_0, hsb_1] at c_1 c_6; simp [A_set, c_1, c_6]; done) | (simp [A_set, c_1, c_6]; done) | (simp [A_set, hs_32, c_1, c_6]; done) | exact hsA_set_bad (hs_n0 c_1))
      · refine lv_aload_n hx hb dX7_set_48 rfl (lv_at hl 0 rfl) ?_
        refine va_get (D := D) (ci := 6) (v := .ref h_now) (C := RX7) (T := TX7) (N := 10) hx hb hts hiX7 hown hK hP 0 rfl rfl 0 (by decide) fl10 (fun _ h9 => h9) rfl dX7_set_49 ?_
        refine va_get (D := D) (ci := 5) (v := .int 0) (C := RX6) (T := TX6) (N := 15) hx hb hts hiX6 hown hK hP 1 rfl rfl 10 (by decide) fl102 (fun _ h9 => h9) rfl dX7_set_52 ?_
        refine lv_istore_n (lv' := [(3, .int 0), (0, .ref h), (1, .int 3), (2, .int v)]) hx hb dX7_set_55 rfl hl (by decide) rfl (fun ls hl => ?_)
        refine lv_aload_n hx hb dX7_set_56 rfl (lv_at hl 1 rfl) ?_
        refine va_get (D := D) (ci := 6) (v := .ref h_now) (C := RX7) (T := TX7) (N := 10) hx hb hts hiX7 hown hK hP 0 rfl rfl 0 (by decide) fl10 (fun _ h9 => h9) rfl dX7_set_57 ?_
        refine lv_iload_n hx hb dX7_set_60 rfl (lv_at hl 3 rfl) ?_
        refine va_put (D := D) (ci := 5) (v := .int v) (ty := .int) (C := RX6) (T := TX6) (N := 15) hx hb hts hiX6 tyX6 tyX6_ok nmX6 hown hK hP hD hS 1 rfl rfl 10 (by decide) fl102 (fun _ h9 => h9) rfl (by decide +kernel) rfl rfl (Nat.le_of_ble_eq_true rfl) dX7_set_61 (fun H locs hP hD hS => ?_)
        have hP : va_P D vwCl [(h, .inr (6, [.ref h_now, .ref h_trial, .ref h_images, .ref h_imageThere, .ref h_teller, .ref h_ranks, .ref h_court, .ref h_sheets, .int 0, .int 0])), (h_now, .inr (5, [.ref n_weights, .ref n_kindOf, .ref n_light, .ref n_heavy, .ref n_seenBy, .ref n_seenCut, .ref n_seenFound, .int 2, .int 0, .int 0, .int v, .int 0, .int 2, .int 0, .int 0]))] H := hP
        have hD : va_D A [(h, .inr (6, [.ref h_now, .ref h_trial, .ref h_images, .ref h_imageThere, .ref h_teller, .ref h_ranks, .ref h_court, .ref h_sheets, .int 0, .int 0])), (h_now, .inr (5, [.ref n_weights, .ref n_kindOf, .ref n_light, .ref n_heavy, .ref n_seenBy, .ref n_seenCut, .ref n_seenFound, .int 2, .int 0, .int 0, .int v, .int 0, .int 2, .int 0, .int 0]))] := hD
        refine lv_iload_n hx hb dX7_set_64 rfl (lv_at hl 0 rfl) ?_
        exact hs_iret hx hb hr hlocks hK hP hD hS () [] rfl (by decide) dX7_set_65 (by first | rfl | decide | (simp only [hsb_0, hsb_1] at c_1 c_6; simp [A_set, c_1, c_6]; done) | (simp [A_set, c_1, c_6]; done) | (simp [A_set, hs_32, c_1, c_6]; done) | exact hsA_set_bad (hs_n0 c_1))
  · subst c_1
    refine lv_iload_n hx hb dX7_set_5 rfl (lv_at hl 2 rfl) ?_
    refine lv_iconst (v := 0) hx hb dX7_set_6 (by decide) ?_
    refine lv_bipush (v := 9) hx hb dX7_set_7 (by decide) ?_
    refine hs_pi (va_runS (As := [.int v, .int 0, .int 9]) (rest := []) ⟨hx, hb, hml, hown, hts⟩ (c_within l D k _ v 0 9) (va_cwS 3 hts gX7_set_X7_within rfl rfl rfl (by decide +kernel) ⟨Nat.le_of_ble_eq_true rfl, Nat.le_of_ble_eq_true rfl⟩) (hs_preS hK hN (hs_subP (w := []) hP [] rfl) (hD.sub (ws' := []) [] (by decide) rfl)) rfl rfl hl.1 rfl (lv_room (Nat.le_of_ble_eq_true rfl)) dX7_set_9 ⟨Nat.le_of_ble_eq_true rfl, Nat.le_of_ble_eq_true rfl⟩) hP hD hS hA (fun r_7 u_9 H locs hw_8 hP hS => ?_)
    refine hs_topi (hsb (hsin v 0 9)) hw_8 ?_
    refine lv_if_eq (tgt := 33) hx hb dX7_set_12 (by decide) (fun c_10 => ?_) (fun c_10 => ?_)
    · refine lv_iload_n hx hb dX7_set_33 rfl (lv_at hl 1 rfl) ?_
      refine lv_iconst (v := 3) hx hb dX7_set_34 (by decide) ?_
      refine lv_icmp_ne (tgt := 66) hx hb dX7_set_35 (by decide) (fun c_11 => ?_) (fun c_11 => absurd c_11 (by decide))
      refine lv_iconst (v := (-1)) hx hb dX7_set_66 (by decide) ?_
      exact hs_iret hx hb hr hlocks hK hP hD hS () [] rfl (by decide) dX7_set_67 (by first | rfl | decide | (simp only [hsb_0, hsb_1] at c_10 c_11; simp [A_set, c_10, c_11]; done) | (simp [A_set, c_10, c_11]; done) | (simp [A_set, hs_32, c_10, c_11]; done) | exact hsA_set_bad (hs_n0 c_10))
    · refine lv_aload_n hx hb dX7_set_15 rfl (lv_at hl 0 rfl) ?_
      refine va_get (D := D) (ci := 6) (v := .ref h_now) (C := RX7) (T := TX7) (N := 10) hx hb hts hiX7 hown hK hP 0 rfl rfl 0 (by decide) fl10 (fun _ h9 => h9) rfl dX7_set_16 ?_
      refine va_get (D := D) (ci := 5) (v := .int 0) (C := RX6) (T := TX6) (N := 15) hx hb hts hiX6 hown hK hP 1 rfl rfl 9 (by decide) fl99 (fun _ h9 => h9) rfl dX7_set_19 ?_
      refine lv_istore_n (lv' := [(3, .int 0), (0, .ref h), (1, .int 2), (2, .int v)]) hx hb dX7_set_22 rfl hl (by decide) rfl (fun ls hl => ?_)
      refine lv_aload_n hx hb dX7_set_23 rfl (lv_at hl 1 rfl) ?_
      refine va_get (D := D) (ci := 6) (v := .ref h_now) (C := RX7) (T := TX7) (N := 10) hx hb hts hiX7 hown hK hP 0 rfl rfl 0 (by decide) fl10 (fun _ h9 => h9) rfl dX7_set_24 ?_
      refine lv_iload_n hx hb dX7_set_27 rfl (lv_at hl 3 rfl) ?_
      refine va_put (D := D) (ci := 5) (v := .int v) (ty := .int) (C := RX6) (T := TX6) (N := 15) hx hb hts hiX6 tyX6 tyX6_ok nmX6 hown hK hP hD hS 1 rfl rfl 9 (by decide) fl99 (fun _ h9 => h9) rfl (by decide +kernel) rfl rfl (Nat.le_of_ble_eq_true rfl) dX7_set_28 (fun H locs hP hD hS => ?_)
      have hP : va_P D vwCl [(h, .inr (6, [.ref h_now, .ref h_trial, .ref h_images, .ref h_imageThere, .ref h_teller, .ref h_ranks, .ref h_court, .ref h_sheets, .int 0, .int 0])), (h_now, .inr (5, [.ref n_weights, .ref n_kindOf, .ref n_light, .ref n_heavy, .ref n_seenBy, .ref n_seenCut, .ref n_seenFound, .int 2, .int 0, .int v, .int 0, .int 0, .int 2, .int 0, .int 0]))] H := hP
      have hD : va_D A [(h, .inr (6, [.ref h_now, .ref h_trial, .ref h_images, .ref h_imageThere, .ref h_teller, .ref h_ranks, .ref h_court, .ref h_sheets, .int 0, .int 0])), (h_now, .inr (5, [.ref n_weights, .ref n_kindOf, .ref n_light, .ref n_heavy, .ref n_seenBy, .ref n_seenCut, .ref n_seenFound, .int 2, .int 0, .int v, .int 0, .int 0, .int 2, .int 0, .int 0]))] := hD
      refine lv_iload_n hx hb dX7_set_31 rfl (lv_at hl 0 rfl) ?_
      exact hs_iret hx hb hr hlocks hK hP hD hS () [] rfl (by decide) dX7_set_32 (by first | rfl | decide | (simp only [hsb_0, hsb_1] at c_10; simp [A_set, c_10]; done) | (simp [A_set, c_10]; done) | (simp [A_set, hs_32, c_10]; done) | exact hsA_set_bad (hs_n0 c_10))

set_option maxHeartbeats 4000000 in
set_option maxRecDepth 100000 in
theorem p_appeal (l : Launch) (D : va_G) (k : Nat → ClassId) (sz : Nat) (h : Nat) (h_now : Nat) (h_trial : Nat) (h_images : Nat) (h_imageThere : Nat) (h_teller : Nat) (h_ranks : Nat) (h_court : Nat) (h_sheets : Nat) (n_weights : Nat) (n_kindOf : Nat) (n_light : Nat) (n_heavy : Nat) (n_seenBy : Nat) (n_seenCut : Nat) (n_seenFound : Nat)  : MI l yX7_appeal wsX7_appeal ({ frames := 0, cells := 0, slots := 0, locals := 0 }) D k [.ref h] [(h, .inr (6, [.ref h_now, .ref h_trial, .ref h_images, .ref h_imageThere, .ref h_teller, .ref h_ranks, .ref h_court, .ref h_sheets, .int 0, .int 0])), (h_now, .inr (5, [.ref n_weights, .ref n_kindOf, .ref n_light, .ref n_heavy, .ref n_seenBy, .ref n_seenCut, .ref n_seenFound, .int 2, .int 0, .int 0, .int 0, .int 0, .int 2, .int 0, .int 0]))] sz (fun (r : Int32) (u : Unit) => r = A_appeal) (fun (u : Unit) => []) := by
  refine Met.ofW (cc := cX7_appeal) (maxL := 1) (ret := (some .int)) (by decide) rfl ?_
  intro p e s m args below meth c s₁ B hml hv
  obtain ⟨rfl, hsz, hP, hK, hD0, hN⟩ := hv
  have hx := B.exec
  have hb := B.bytes
  have hr := B.returns
  have hlocks := B.notSynchronized
  have hts := atoms_spec (ws := wsX7_appeal) B.pre
  have hown : s.vm.findClass RX7 = some m.cls := findClass_of_methodNamed B.named
  have hiX6 : ∀ w ∈ u_ws RX6 TX6 15, w ∈ wsX7_appeal := by decide +kernel
  have hiX7 : ∀ w ∈ u_ws RX7 TX7 10, w ∈ wsX7_appeal := by decide +kernel
  have fl10 := hts (.fieldLink RX7 10 "HalfScales" "now" "LHalfScales$Thing;") (by decide +kernel)
  have fl102 := hts (.fieldLink RX7 102 "HalfScales$Thing" "fine" "I") (by decide +kernel)
  subst hsz
  have hD := hD0.self (sz := s.heap.size)
  generalize hAe : va_A [(h, .inr (6, [.ref h_now, .ref h_trial, .ref h_images, .ref h_imageThere, .ref h_teller, .ref h_ranks, .ref h_court, .ref h_sheets, .int 0, .int 0])), (h_now, .inr (5, [.ref n_weights, .ref n_kindOf, .ref n_light, .ref n_heavy, .ref n_seenBy, .ref n_seenCut, .ref n_seenFound, .int 2, .int 0, .int 0, .int 0, .int 0, .int 2, .int 0, .int 0]))] s.heap.size = A at hD ⊢
  have hA : ∀ q : Nat, s.heap.size ≤ q → A q := fun q h => by rw [← hAe]; exact Or.inr h
  have hS : va_S A s.heap s.heap [] := va_S.rf
  have hl := lv_entry ([.ref h]) (n := 1) (Nat.le_of_ble_eq_true rfl)
  rw [lg_entry_eq]
  generalize (lg_sl ([.ref h]) ++ List.replicate (1 - (lg_sl ([.ref h])).length) Slot.unset).toArray = ls at hl ⊢
  have hl : lv_has ls 1 [(0, .ref h)] := hl
  have hP : va_P D vwCl [(h, .inr (6, [.ref h_now, .ref h_trial, .ref h_images, .ref h_imageThere, .ref h_teller, .ref h_ranks, .ref h_court, .ref h_sheets, .int 0, .int 0])), (h_now, .inr (5, [.ref n_weights, .ref n_kindOf, .ref n_light, .ref n_heavy, .ref n_seenBy, .ref n_seenCut, .ref n_seenFound, .int 2, .int 0, .int 0, .int 0, .int 0, .int 2, .int 0, .int 0]))] s.heap := hP
  refine lv_aload_n hx hb dX7_appeal_0 rfl (lv_at hl 0 rfl) ?_
  refine va_get (D := D) (ci := 6) (v := .ref h_now) (C := RX7) (T := TX7) (N := 10) hx hb hts hiX7 hown hK hP 0 rfl rfl 0 (by decide) fl10 (fun _ h9 => h9) rfl dX7_appeal_1 ?_
  refine va_get (D := D) (ci := 5) (v := .int 0) (C := RX6) (T := TX6) (N := 15) hx hb hts hiX6 hown hK hP 1 rfl rfl 10 (by decide) fl102 (fun _ h9 => h9) rfl dX7_appeal_4 ?_
  refine lv_iconst (v := 1) hx hb dX7_appeal_7 (by decide) ?_
  refine lv_icmp_gt (tgt := 14) hx hb dX7_appeal_8 (by decide) (fun c_1 => absurd c_1 (by decide)) (fun c_1 => ?_)
  refine lv_bipush (v := (-2)) hx hb dX7_appeal_11 (by decide) ?_
  exact hs_iret hx hb hr hlocks hK hP hD hS () [] rfl (by decide) dX7_appeal_13 (by first | rfl | decide | (simp only [hsb_0, hsb_1] at c_1; simp [A_appeal, c_1]; done) | (simp [A_appeal, c_1]; done))

set_option maxHeartbeats 4000000 in
set_option maxRecDepth 100000 in
theorem p_lighter (l : Launch) (D : va_G) (k : Nat → ClassId) (sz : Nat) (h : Nat) (h_now : Nat) (h_trial : Nat) (h_images : Nat) (h_imageThere : Nat) (h_teller : Nat) (h_ranks : Nat) (h_court : Nat) (h_sheets : Nat) (n_weights : Nat) (n_kindOf : Nat) (n_light : Nat) (n_heavy : Nat) (n_seenBy : Nat) (n_seenCut : Nat) (n_seenFound : Nat) (q_ahead : Nat) (q_ways : Nat) (a : Int32) (b : Int32)  : MI l yX7_lighter wsX7_lighter ({ frames := 3, cells := 0, slots := 0, locals := 71 }) D k [.ref h, .int a, .int b] [(h, .inr (6, [.ref h_now, .ref h_trial, .ref h_images, .ref h_imageThere, .ref h_teller, .ref h_ranks, .ref h_court, .ref h_sheets, .int 0, .int 0])), (h_now, .inr (5, [.ref n_weights, .ref n_kindOf, .ref n_light, .ref n_heavy, .ref n_seenBy, .ref n_seenCut, .ref n_seenFound, .int 2, .int 0, .int 0, .int 0, .int 0, .int 2, .int 0, .int 0])), (n_light, .inl (k 0, 8, .inl (hsz))), (n_heavy, .inl (k 0, 8, .inl (hsz))), (h_ranks, .inr (1, [.ref q_ahead, .ref q_ways, .int 0])), (q_ahead, .inl (k 0, 5, .inl (hsz))), (q_ways, .inl (k 0, 32, .inl (hsz)))] sz (fun (r : Int32) (u : Unit) => r = A_lighter a b) (fun (u : Unit) => []) := by
  refine Met.ofW (cc := cX7_lighter) (maxL := 3) (ret := (some .int)) (by decide) rfl ?_
  intro p e s m args below meth c s₁ B hml hv
  obtain ⟨rfl, hsz, hP, hK, hD0, hN⟩ := hv
  have hx := B.exec
  have hb := B.bytes
  have hr := B.returns
  have hlocks := B.notSynchronized
  have hts := atoms_spec (ws := wsX7_lighter) B.pre
  have hown : s.vm.findClass RX7 = some m.cls := findClass_of_methodNamed B.named
  have hiX6 : ∀ w ∈ u_ws RX6 TX6 15, w ∈ wsX7_lighter := by decide +kernel
  have hiX7 : ∀ w ∈ u_ws RX7 TX7 10, w ∈ wsX7_lighter := by decide +kernel
  have fl10 := hts (.fieldLink RX7 10 "HalfScales" "now" "LHalfScales$Thing;") (by decide +kernel)
  have fl111 := hts (.fieldLink RX7 111 "HalfScales$Thing" "pairCount" "I") (by decide +kernel)
  have fl37 := hts (.fieldLink RX7 37 "HalfScales" "ranks" "LHalfScales$Ranks;") (by decide +kernel)
  subst hsz
  have hD := hD0.self (sz := s.heap.size)
  generalize hAe : va_A [(h, .inr (6, [.ref h_now, .ref h_trial, .ref h_images, .ref h_imageThere, .ref h_teller, .ref h_ranks, .ref h_court, .ref h_sheets, .int 0, .int 0])), (h_now, .inr (5, [.ref n_weights, .ref n_kindOf, .ref n_light, .ref n_heavy, .ref n_seenBy, .ref n_seenCut, .ref n_seenFound, .int 2, .int 0, .int 0, .int 0, .int 0, .int 2, .int 0, .int 0])), (n_light, .inl (k 0, 8, .inl (hsz))), (n_heavy, .inl (k 0, 8, .inl (hsz))), (h_ranks, .inr (1, [.ref q_ahead, .ref q_ways, .int 0])), (q_ahead, .inl (k 0, 5, .inl (hsz))), (q_ways, .inl (k 0, 32, .inl (hsz)))] s.heap.size = A at hD ⊢
  have hA : ∀ q : Nat, s.heap.size ≤ q → A q := fun q h => by rw [← hAe]; exact Or.inr h
  have hS : va_S A s.heap s.heap [] := va_S.rf
  have hl := lv_entry ([.ref h, .int a, .int b]) (n := 3) (Nat.le_of_ble_eq_true rfl)
  rw [lg_entry_eq]
  generalize (lg_sl ([.ref h, .int a, .int b]) ++ List.replicate (3 - (lg_sl ([.ref h, .int a, .int b])).length) Slot.unset).toArray = ls at hl ⊢
  have hl : lv_has ls 3 [(0, .ref h), (1, .int a), (2, .int b)] := hl
  have hP : va_P D vwCl [(h, .inr (6, [.ref h_now, .ref h_trial, .ref h_images, .ref h_imageThere, .ref h_teller, .ref h_ranks, .ref h_court, .ref h_sheets, .int 0, .int 0])), (h_now, .inr (5, [.ref n_weights, .ref n_kindOf, .ref n_light, .ref n_heavy, .ref n_seenBy, .ref n_seenCut, .ref n_seenFound, .int 2, .int 0, .int 0, .int 0, .int 0, .int 2, .int 0, .int 0])), (n_light, .inl (k 0, 8, .inl (hsz))), (n_heavy, .inl (k 0, 8, .inl (hsz))), (h_ranks, .inr (1, [.ref q_ahead, .ref q_ways, .int 0])), (q_ahead, .inl (k 0, 5, .inl (hsz))), (q_ways, .inl (k 0, 32, .inl (hsz)))] s.heap := hP
  refine lv_aload_n hx hb dX7_lighter_0 rfl (lv_at hl 0 rfl) ?_
  refine va_get (D := D) (ci := 6) (v := .ref h_now) (C := RX7) (T := TX7) (N := 10) hx hb hts hiX7 hown hK hP 0 rfl rfl 0 (by decide) fl10 (fun _ h9 => h9) rfl dX7_lighter_1 ?_
  refine lv_iload_n hx hb dX7_lighter_4 rfl (lv_at hl 1 rfl) ?_
  refine hs_ci (va_runV (As := [.int a]) (rest := []) ⟨hx, hb, hml, hown, hts⟩ (c_isHalf0 l D k _ h_now n_weights n_kindOf n_light n_heavy n_seenBy n_seenCut n_seenFound a) (cwV 1 hts gX7_lighter_X6_isHalf rfl rfl rfl (by decide +kernel) ⟨Nat.le_of_ble_eq_true rfl, Nat.le_of_ble_eq_true rfl⟩) (hs_preV hK hN (hs_subP (w := [(h_now, .inr (5, [.ref n_weights, .ref n_kindOf, .ref n_light, .ref n_heavy, .ref n_seenBy, .ref n_seenCut, .ref n_seenFound, .int 2, .int 0, .int 0, .int 0, .int 0, .int 2, .int 0, .int 0]))]) hP [1] rfl) (hD.sub (ws' := [(h_now, .inr (5, [.ref n_weights, .ref n_kindOf, .ref n_light, .ref n_heavy, .ref n_seenBy, .ref n_seenCut, .ref n_seenFound, .int 2, .int 0, .int 0, .int 0, .int 0, .int 2, .int 0, .int 0]))]) [1] (by decide) rfl) (ci := 5) (q0 := 0) rfl rfl) rfl rfl hl.1 rfl (lv_room (Nat.le_of_ble_eq_true rfl)) dX7_lighter_5 ⟨Nat.le_of_ble_eq_true rfl, Nat.le_of_ble_eq_true rfl⟩) hP hD hS hA [1] [0, 2, 3, 4, 5, 6] [(h, .inr (6, [.ref h_now, .ref h_trial, .ref h_images, .ref h_imageThere, .ref h_teller, .ref h_ranks, .ref h_court, .ref h_sheets, .int 0, .int 0])), (n_light, .inl (k 0, 8, .inl (hsz))), (n_heavy, .inl (k 0, 8, .inl (hsz))), (h_ranks, .inr (1, [.ref q_ahead, .ref q_ways, .int 0])), (q_ahead, .inl (k 0, 5, .inl (hsz))), (q_ways, .inl (k 0, 32, .inl (hsz)))] rfl rfl (by decide) (by decide) [0, 6, 1, 2, 3, 4, 5] (fun u_3 => [(h, .inr (6, [.ref h_now, .ref h_trial, .ref h_images, .ref h_imageThere, .ref h_teller, .ref h_ranks, .ref h_court, .ref h_sheets, .int 0, .int 0])), (h_now, .inr (5, [.ref n_weights, .ref n_kindOf, .ref n_light, .ref n_heavy, .ref n_seenBy, .ref n_seenCut, .ref n_seenFound, .int 2, .int 0, .int 0, .int 0, .int 0, .int 2, .int 0, .int 0])), (n_light, .inl (k 0, 8, .inl (hsz))), (n_heavy, .inl (k 0, 8, .inl (hsz))), (h_ranks, .inr (1, [.ref q_ahead, .ref q_ways, .int 0])), (q_ahead, .inl (k 0, 5, .inl (hsz))), (q_ways, .inl (k 0, 32, .inl (hsz)))]) (fun _ => rfl) (by decide) (fun r_1 u_3 H locs hw_2 hP hD hS => ?_)
  have hP : va_P D vwCl [(h, .inr (6, [.ref h_now, .ref h_trial, .ref h_images, .ref h_imageThere, .ref h_teller, .ref h_ranks, .ref h_court, .ref h_sheets, .int 0, .int 0])), (h_now, .inr (5, [.ref n_weights, .ref n_kindOf, .ref n_light, .ref n_heavy, .ref n_seenBy, .ref n_seenCut, .ref n_seenFound, .int 2, .int 0, .int 0, .int 0, .int 0, .int 2, .int 0, .int 0])), (n_light, .inl (k 0, 8, .inl (hsz))), (n_heavy, .inl (k 0, 8, .inl (hsz))), (h_ranks, .inr (1, [.ref q_ahead, .ref q_ways, .int 0])), (q_ahead, .inl (k 0, 5, .inl (hsz))), (q_ways, .inl (k 0, 32, .inl (hsz)))] H := hP
  have hD : va_D A [(h, .inr (6, [.ref h_now, .ref h_trial, .ref h_images, .ref h_imageThere, .ref h_teller, .ref h_ranks, .ref h_court, .ref h_sheets, .int 0, .int 0])), (h_now, .inr (5, [.ref n_weights, .ref n_kindOf, .ref n_light, .ref n_heavy, .ref n_seenBy, .ref n_seenCut, .ref n_seenFound, .int 2, .int 0, .int 0, .int 0, .int 0, .int 2, .int 0, .int 0])), (n_light, .inl (k 0, 8, .inl (hsz))), (n_heavy, .inl (k 0, 8, .inl (hsz))), (h_ranks, .inr (1, [.ref q_ahead, .ref q_ways, .int 0])), (q_ahead, .inl (k 0, 5, .inl (hsz))), (q_ways, .inl (k 0, 32, .inl (hsz)))] := hD
  refine hs_topi (hsb (hsin a 0 1)) hw_2 ?_
  refine lv_if_eq (tgt := 27) hx hb dX7_lighter_8 (by decide) (fun c_4 => ?_) (fun c_4 => ?_)
  · refine lv_iconst (v := (-1)) hx hb dX7_lighter_27 (by decide) ?_
    exact hs_iret hx hb hr hlocks hK hP hD hS () [] rfl (by decide) dX7_lighter_28 (by first | rfl | decide | (simp only [hsb_0, hsb_1] at c_4; simp [A_lighter, c_4]; done) | (simp [A_lighter, c_4]; done))
  · rcases hs_v01 (hs_nb c_4) with rfl | rfl
    · refine lv_aload_n hx hb dX7_lighter_11 rfl (lv_at hl 0 rfl) ?_
      refine va_get (D := D) (ci := 6) (v := .ref h_now) (C := RX7) (T := TX7) (N := 10) hx hb hts hiX7 hown hK hP 0 rfl rfl 0 (by decide) fl10 (fun _ h9 => h9) rfl dX7_lighter_12 ?_
      refine lv_iload_n hx hb dX7_lighter_15 rfl (lv_at hl 2 rfl) ?_
      refine hs_ci (va_runV (As := [.int b]) (rest := []) ⟨hx, hb, hml, hown, hts⟩ (c_isHalf0 l D k _ h_now n_weights n_kindOf n_light n_heavy n_seenBy n_seenCut n_seenFound b) (cwV 1 hts gX7_lighter_X6_isHalf rfl rfl rfl (by decide +kernel) ⟨Nat.le_of_ble_eq_true rfl, Nat.le_of_ble_eq_true rfl⟩) (hs_preV hK hN (hs_subP (w := [(h_now, .inr (5, [.ref n_weights, .ref n_kindOf, .ref n_light, .ref n_heavy, .ref n_seenBy, .ref n_seenCut, .ref n_seenFound, .int 2, .int 0, .int 0, .int 0, .int 0, .int 2, .int 0, .int 0]))]) hP [1] rfl) (hD.sub (ws' := [(h_now, .inr (5, [.ref n_weights, .ref n_kindOf, .ref n_light, .ref n_heavy, .ref n_seenBy, .ref n_seenCut, .ref n_seenFound, .int 2, .int 0, .int 0, .int 0, .int 0, .int 2, .int 0, .int 0]))]) [1] (by decide) rfl) (ci := 5) (q0 := 0) rfl rfl) rfl rfl hl.1 rfl (lv_room (Nat.le_of_ble_eq_true rfl)) dX7_lighter_16 ⟨Nat.le_of_ble_eq_true rfl, Nat.le_of_ble_eq_true rfl⟩) hP hD hS hA [1] [0, 2, 3, 4, 5, 6] [(h, .inr (6, [.ref h_now, .ref h_trial, .ref h_images, .ref h_imageThere, .ref h_teller, .ref h_ranks, .ref h_court, .ref h_sheets, .int 0, .int 0])), (n_light, .inl (k 0, 8, .inl (hsz))), (n_heavy, .inl (k 0, 8, .inl (hsz))), (h_ranks, .inr (1, [.ref q_ahead, .ref q_ways, .int 0])), (q_ahead, .inl (k 0, 5, .inl (hsz))), (q_ways, .inl (k 0, 32, .inl (hsz)))] rfl rfl (by decide) (by decide) [0, 6, 1, 2, 3, 4, 5] (fun u_7 => [(h, .inr (6, [.ref h_now, .ref h_trial, .ref h_images, .ref h_imageThere, .ref h_teller, .ref h_ranks, .ref h_court, .ref h_sheets, .int 0, .int 0])), (h_now, .inr (5, [.ref n_weights, .ref n_kindOf, .ref n_light, .ref n_heavy, .ref n_seenBy, .ref n_seenCut, .ref n_seenFound, .int 2, .int 0, .int 0, .int 0, .int 0, .int 2, .int 0, .int 0])), (n_light, .inl (k 0, 8, .inl (hsz))), (n_heavy, .inl (k 0, 8, .inl (hsz))), (h_ranks, .inr (1, [.ref q_ahead, .ref q_ways, .int 0])), (q_ahead, .inl (k 0, 5, .inl (hsz))), (q_ways, .inl (k 0, 32, .inl (hsz)))]) (fun _ => rfl) (by decide) (fun r_5 u_7 H locs hw_6 hP hD hS => ?_)
      have hP : va_P D vwCl [(h, .inr (6, [.ref h_now, .ref h_trial, .ref h_images, .ref h_imageThere, .ref h_teller, .ref h_ranks, .ref h_court, .ref h_sheets, .int 0, .int 0])), (h_now, .inr (5, [.ref n_weights, .ref n_kindOf, .ref n_light, .ref n_heavy, .ref n_seenBy, .ref n_seenCut, .ref n_seenFound, .int 2, .int 0, .int 0, .int 0, .int 0, .int 2, .int 0, .int 0])), (n_light, .inl (k 0, 8, .inl (hsz))), (n_heavy, .inl (k 0, 8, .inl (hsz))), (h_ranks, .inr (1, [.ref q_ahead, .ref q_ways, .int 0])), (q_ahead, .inl (k 0, 5, .inl (hsz))), (q_ways, .inl (k 0, 32, .inl (hsz)))] H := hP
      have hD : va_D A [(h, .inr (6, [.ref h_now, .ref h_trial, .ref h_images, .ref h_imageThere, .ref h_teller, .ref h_ranks, .ref h_court, .ref h_sheets, .int 0, .int 0])), (h_now, .inr (5, [.ref n_weights, .ref n_kindOf, .ref n_light, .ref n_heavy, .ref n_seenBy, .ref n_seenCut, .ref n_seenFound, .int 2, .int 0, .int 0, .int 0, .int 0, .int 2, .int 0, .int 0])), (n_light, .inl (k 0, 8, .inl (hsz))), (n_heavy, .inl (k 0, 8, .inl (hsz))), (h_ranks, .inr (1, [.ref q_ahead, .ref q_ways, .int 0])), (q_ahead, .inl (k 0, 5, .inl (hsz))), (q_ways, .inl (k 0, 32, .inl (hsz)))] := hD
      refine hs_topi (hsb (hsin b 0 1)) hw_6 ?_
      refine lv_if_eq (tgt := 27) hx hb dX7_lighter_19 (by decide) (fun c_8 => ?_) (fun c_8 => ?_)
      · refine lv_iconst (v := (-1)) hx hb dX7_lighter_27 (by decide) ?_
        exact hs_iret hx hb hr hlocks hK hP hD hS () [] rfl (by decide) dX7_lighter_28 (by first | rfl | decide | (simp only [hsb_0, hsb_1] at c_4 c_8; simp [A_lighter, c_4, c_8]; done) | (simp [A_lighter, c_4, c_8]; done))
      · rcases hs_v01 (hs_nb c_8) with rfl | rfl
        · refine lv_iload_n hx hb dX7_lighter_22 rfl (lv_at hl 1 rfl) ?_
          refine lv_iload_n hx hb dX7_lighter_23 rfl (lv_at hl 2 rfl) ?_
          refine lv_icmp_ne (tgt := 29) hx hb dX7_lighter_24 (by decide) (fun c_9 => absurd c_9 (by decide)) (fun c_9 => ?_)
          refine lv_iconst (v := (-1)) hx hb dX7_lighter_27 (by decide) ?_
          exact hs_iret hx hb hr hlocks hK hP hD hS () [] rfl (by decide) dX7_lighter_28 (by first | rfl | decide | (simp only [hsb_0, hsb_1] at c_4 c_8 c_9; simp [A_lighter, c_4, c_8, c_9]; done) | (simp [A_lighter, c_4, c_8, c_9]; done))
        · refine lv_iload_n hx hb dX7_lighter_22 rfl (lv_at hl 1 rfl) ?_
          refine lv_iload_n hx hb dX7_lighter_23 rfl (lv_at hl 2 rfl) ?_
          refine lv_icmp_ne (tgt := 29) hx hb dX7_lighter_24 (by decide) (fun c_10 => ?_) (fun c_10 => absurd c_10 (by decide))
          refine lv_aload_n hx hb dX7_lighter_29 rfl (lv_at hl 0 rfl) ?_
          refine va_get (D := D) (ci := 6) (v := .ref h_now) (C := RX7) (T := TX7) (N := 10) hx hb hts hiX7 hown hK hP 0 rfl rfl 0 (by decide) fl10 (fun _ h9 => h9) rfl dX7_lighter_30 ?_
          refine va_get (D := D) (ci := 5) (v := .int 0) (C := RX6) (T := TX6) (N := 15) hx hb hts hiX6 hown hK hP 1 rfl rfl 13 (by decide) fl111 (fun _ h9 => h9) rfl dX7_lighter_33 ?_
          refine lv_bipush (v := 8) hx hb dX7_lighter_36 (by decide) ?_
          refine lv_icmp_lt (tgt := 44) hx hb dX7_lighter_38 (by decide) (fun c_11 => ?_) (fun c_11 => absurd c_11 (by decide))
          refine lv_aload_n hx hb dX7_lighter_44 rfl (lv_at hl 0 rfl) ?_
          refine va_get (D := D) (ci := 6) (v := .ref h_ranks) (C := RX7) (T := TX7) (N := 10) hx hb hts hiX7 hown hK hP 0 rfl rfl 5 (by decide) fl37 (fun _ h9 => h9) rfl dX7_lighter_45 ?_
          refine lv_aload_n hx hb dX7_lighter_48 rfl (lv_at hl 0 rfl) ?_
          refine va_get (D := D) (ci := 6) (v := .ref h_now) (C := RX7) (T := TX7) (N := 10) hx hb hts hiX7 hown hK hP 0 rfl rfl 0 (by decide) fl10 (fun _ h9 => h9) rfl dX7_lighter_49 ?_
          refine hs_cv (va_runV (As := [.ref h_now]) (rest := []) ⟨hx, hb, hml, hown, hts⟩ (c_learn0 l D k _ h_ranks q_ahead q_ways 0 h_now n_weights n_kindOf n_light n_heavy n_seenBy n_seenCut n_seenFound) (cwV 1 hts gX7_lighter_X2_learn rfl rfl rfl (by decide +kernel) ⟨Nat.le_of_ble_eq_true rfl, Nat.le_of_ble_eq_true rfl⟩) (hs_preV hK hN (hs_subP (w := [(h_ranks, .inr (1, [.ref q_ahead, .ref q_ways, .int 0])), (q_ahead, .inl (k 0, 5, .inl (hsz))), (h_now, .inr (5, [.ref n_weights, .ref n_kindOf, .ref n_light, .ref n_heavy, .ref n_seenBy, .ref n_seenCut, .ref n_seenFound, .int 2, .int 0, .int 0, .int 0, .int 0, .int 2, .int 0, .int 0]))]) hP [4, 5, 1] rfl) (hD.sub (ws' := [(h_ranks, .inr (1, [.ref q_ahead, .ref q_ways, .int 0])), (q_ahead, .inl (k 0, 5, .inl (hsz))), (h_now, .inr (5, [.ref n_weights, .ref n_kindOf, .ref n_light, .ref n_heavy, .ref n_seenBy, .ref n_seenCut, .ref n_seenFound, .int 2, .int 0, .int 0, .int 0, .int 0, .int 2, .int 0, .int 0]))]) [4, 5, 1] (by decide) rfl) (ci := 1) (q0 := 0) rfl rfl) rfl rfl hl.1 rfl (lv_room (Nat.le_of_ble_eq_true rfl)) dX7_lighter_52 ⟨Nat.le_of_ble_eq_true rfl, Nat.le_of_ble_eq_true rfl⟩) hP hD hS hA [4, 5, 1] [0, 2, 3, 6] [(h, .inr (6, [.ref h_now, .ref h_trial, .ref h_images, .ref h_imageThere, .ref h_teller, .ref h_ranks, .ref h_court, .ref h_sheets, .int 0, .int 0])), (n_light, .inl (k 0, 8, .inl (hsz))), (n_heavy, .inl (k 0, 8, .inl (hsz))), (q_ways, .inl (k 0, 32, .inl (hsz)))] rfl rfl (by decide) (by decide) [0, 6, 1, 2, 4, 5, 3] (fun u_14 => [(h, .inr (6, [.ref h_now, .ref h_trial, .ref h_images, .ref h_imageThere, .ref h_teller, .ref h_ranks, .ref h_court, .ref h_sheets, .int 0, .int 0])), (h_now, .inr (5, [.ref n_weights, .ref n_kindOf, .ref n_light, .ref n_heavy, .ref n_seenBy, .ref n_seenCut, .ref n_seenFound, .int 2, .int 0, .int 0, .int 0, .int 0, .int 2, .int 0, .int 0])), (n_light, .inl (k 0, 8, .inl (hsz))), (n_heavy, .inl (k 0, 8, .inl (hsz))), (h_ranks, .inr (1, [.ref q_ahead, .ref q_ways, .int 2])), (q_ahead, .inl (k 0, 5, .inl (hsz))), (q_ways, .inl (k 0, 32, .inl (hsz)))]) (fun _ => rfl) (by decide) (fun u_14 H locs hw_13 hP hD hS => ?_)
          have hP : va_P D vwCl [(h, .inr (6, [.ref h_now, .ref h_trial, .ref h_images, .ref h_imageThere, .ref h_teller, .ref h_ranks, .ref h_court, .ref h_sheets, .int 0, .int 0])), (h_now, .inr (5, [.ref n_weights, .ref n_kindOf, .ref n_light, .ref n_heavy, .ref n_seenBy, .ref n_seenCut, .ref n_seenFound, .int 2, .int 0, .int 0, .int 0, .int 0, .int 2, .int 0, .int 0])), (n_light, .inl (k 0, 8, .inl (hsz))), (n_heavy, .inl (k 0, 8, .inl (hsz))), (h_ranks, .inr (1, [.ref q_ahead, .ref q_ways, .int 2])), (q_ahead, .inl (k 0, 5, .inl (hsz))), (q_ways, .inl (k 0, 32, .inl (hsz)))] H := hP
          have hD : va_D A [(h, .inr (6, [.ref h_now, .ref h_trial, .ref h_images, .ref h_imageThere, .ref h_teller, .ref h_ranks, .ref h_court, .ref h_sheets, .int 0, .int 0])), (h_now, .inr (5, [.ref n_weights, .ref n_kindOf, .ref n_light, .ref n_heavy, .ref n_seenBy, .ref n_seenCut, .ref n_seenFound, .int 2, .int 0, .int 0, .int 0, .int 0, .int 2, .int 0, .int 0])), (n_light, .inl (k 0, 8, .inl (hsz))), (n_heavy, .inl (k 0, 8, .inl (hsz))), (h_ranks, .inr (1, [.ref q_ahead, .ref q_ways, .int 2])), (q_ahead, .inl (k 0, 5, .inl (hsz))), (q_ways, .inl (k 0, 32, .inl (hsz)))] := hD
          refine lv_aload_n hx hb dX7_lighter_55 rfl (lv_at hl 0 rfl) ?_
          refine va_get (D := D) (ci := 6) (v := .ref h_ranks) (C := RX7) (T := TX7) (N := 10) hx hb hts hiX7 hown hK hP 0 rfl rfl 5 (by decide) fl37 (fun _ h9 => h9) rfl dX7_lighter_56 ?_
          refine lv_iload_n hx hb dX7_lighter_59 rfl (lv_at hl 1 rfl) ?_
          refine lv_iload_n hx hb dX7_lighter_60 rfl (lv_at hl 2 rfl) ?_
          refine hs_ci (va_runV (As := [.int 0, .int 1]) (rest := []) ⟨hx, hb, hml, hown, hts⟩ (c_howManyWith_01 l D k _ h_ranks q_ahead q_ways hsz) (cwV 2 hts gX7_lighter_X2_howManyWith rfl rfl rfl (by decide +kernel) ⟨Nat.le_of_ble_eq_true rfl, Nat.le_of_ble_eq_true rfl⟩) (hs_preV hK hN (hs_subP (w := [(h_ranks, .inr (1, [.ref q_ahead, .ref q_ways, .int 2])), (q_ahead, .inl (k 0, 5, .inl (hsz))), (q_ways, .inl (k 0, 32, .inl (hsz)))]) hP [4, 5, 6] rfl) (hD.sub (ws' := [(h_ranks, .inr (1, [.ref q_ahead, .ref q_ways, .int 2])), (q_ahead, .inl (k 0, 5, .inl (hsz))), (q_ways, .inl (k 0, 32, .inl (hsz)))]) [4, 5, 6] (by decide) rfl) (ci := 1) (q0 := 0) rfl rfl) rfl rfl hl.1 rfl (lv_room (Nat.le_of_ble_eq_true rfl)) dX7_lighter_61 ⟨Nat.le_of_ble_eq_true rfl, Nat.le_of_ble_eq_true rfl⟩) hP hD hS hA [4, 5, 6] [0, 1, 2, 3] [(h, .inr (6, [.ref h_now, .ref h_trial, .ref h_images, .ref h_imageThere, .ref h_teller, .ref h_ranks, .ref h_court, .ref h_sheets, .int 0, .int 0])), (h_now, .inr (5, [.ref n_weights, .ref n_kindOf, .ref n_light, .ref n_heavy, .ref n_seenBy, .ref n_seenCut, .ref n_seenFound, .int 2, .int 0, .int 0, .int 0, .int 0, .int 2, .int 0, .int 0])), (n_light, .inl (k 0, 8, .inl (hsz))), (n_heavy, .inl (k 0, 8, .inl (hsz)))] rfl rfl (by decide) (by decide) [0, 1, 2, 3, 4, 5, 6] (fun u_17 => [(h, .inr (6, [.ref h_now, .ref h_trial, .ref h_images, .ref h_imageThere, .ref h_teller, .ref h_ranks, .ref h_court, .ref h_sheets, .int 0, .int 0])), (h_now, .inr (5, [.ref n_weights, .ref n_kindOf, .ref n_light, .ref n_heavy, .ref n_seenBy, .ref n_seenCut, .ref n_seenFound, .int 2, .int 0, .int 0, .int 0, .int 0, .int 2, .int 0, .int 0])), (n_light, .inl (k 0, 8, .inl (hsz))), (n_heavy, .inl (k 0, 8, .inl (hsz))), (h_ranks, .inr (1, [.ref q_ahead, .ref q_ways, .int 2])), (q_ahead, .inl (k 0, 5, .inl (hsz))), (q_ways, .inl (k 0, 32, .inl (upd (upd (upd (upd hsz 0 1) 1 1) 2 0) 3 1)))]) (fun _ => rfl) (by decide) (fun r_15 u_17 H locs hw_16 hP hD hS => ?_)
          have hP : va_P D vwCl [(h, .inr (6, [.ref h_now, .ref h_trial, .ref h_images, .ref h_imageThere, .ref h_teller, .ref h_ranks, .ref h_court, .ref h_sheets, .int 0, .int 0])), (h_now, .inr (5, [.ref n_weights, .ref n_kindOf, .ref n_light, .ref n_heavy, .ref n_seenBy, .ref n_seenCut, .ref n_seenFound, .int 2, .int 0, .int 0, .int 0, .int 0, .int 2, .int 0, .int 0])), (n_light, .inl (k 0, 8, .inl (hsz))), (n_heavy, .inl (k 0, 8, .inl (hsz))), (h_ranks, .inr (1, [.ref q_ahead, .ref q_ways, .int 2])), (q_ahead, .inl (k 0, 5, .inl (hsz))), (q_ways, .inl (k 0, 32, .inl (upd (upd (upd (upd hsz 0 1) 1 1) 2 0) 3 1)))] H := hP
          have hD : va_D A [(h, .inr (6, [.ref h_now, .ref h_trial, .ref h_images, .ref h_imageThere, .ref h_teller, .ref h_ranks, .ref h_court, .ref h_sheets, .int 0, .int 0])), (h_now, .inr (5, [.ref n_weights, .ref n_kindOf, .ref n_light, .ref n_heavy, .ref n_seenBy, .ref n_seenCut, .ref n_seenFound, .int 2, .int 0, .int 0, .int 0, .int 0, .int 2, .int 0, .int 0])), (n_light, .inl (k 0, 8, .inl (hsz))), (n_heavy, .inl (k 0, 8, .inl (hsz))), (h_ranks, .inr (1, [.ref q_ahead, .ref q_ways, .int 2])), (q_ahead, .inl (k 0, 5, .inl (hsz))), (q_ways, .inl (k 0, 32, .inl (upd (upd (upd (upd hsz 0 1) 1 1) 2 0) 3 1)))] := hD
          refine hs_topi 1 (hw_16.trans (by first | rfl | decide +kernel | rfl)) ?_
          refine lv_if_ne (tgt := 70) hx hb dX7_lighter_64 (by decide) (fun c_18 => ?_) (fun c_18 => absurd c_18 (by decide))
          refine lv_aload_n hx hb dX7_lighter_70 rfl (lv_at hl 0 rfl) ?_
          refine va_get (D := D) (ci := 6) (v := .ref h_now) (C := RX7) (T := TX7) (N := 10) hx hb hts hiX7 hown hK hP 0 rfl rfl 0 (by decide) fl10 (fun _ h9 => h9) rfl dX7_lighter_71 ?_
          refine lv_iload_n hx hb dX7_lighter_74 rfl (lv_at hl 1 rfl) ?_
          refine lv_iload_n hx hb dX7_lighter_75 rfl (lv_at hl 2 rfl) ?_
          refine hs_cv (va_runV (As := [.int 0, .int 1]) (rest := []) ⟨hx, hb, hml, hown, hts⟩ (c_addPair0 l D k _ h_now n_weights n_kindOf n_light n_heavy n_seenBy n_seenCut n_seenFound 0 1 hsz hsz) (cwV 2 hts gX7_lighter_X6_addPair rfl rfl rfl (by decide +kernel) ⟨Nat.le_of_ble_eq_true rfl, Nat.le_of_ble_eq_true rfl⟩) (hs_preV hK hN (hs_subP (w := [(h_now, .inr (5, [.ref n_weights, .ref n_kindOf, .ref n_light, .ref n_heavy, .ref n_seenBy, .ref n_seenCut, .ref n_seenFound, .int 2, .int 0, .int 0, .int 0, .int 0, .int 2, .int 0, .int 0])), (n_light, .inl (k 0, 8, .inl (hsz))), (n_heavy, .inl (k 0, 8, .inl (hsz)))]) hP [1, 2, 3] rfl) (hD.sub (ws' := [(h_now, .inr (5, [.ref n_weights, .ref n_kindOf, .ref n_light, .ref n_heavy, .ref n_seenBy, .ref n_seenCut, .ref n_seenFound, .int 2, .int 0, .int 0, .int 0, .int 0, .int 2, .int 0, .int 0])), (n_light, .inl (k 0, 8, .inl (hsz))), (n_heavy, .inl (k 0, 8, .inl (hsz)))]) [1, 2, 3] (by decide) rfl) (ci := 5) (q0 := 0) rfl rfl) rfl rfl hl.1 rfl (lv_room (Nat.le_of_ble_eq_true rfl)) dX7_lighter_76 ⟨Nat.le_of_ble_eq_true rfl, Nat.le_of_ble_eq_true rfl⟩) hP hD hS hA [1, 2, 3] [0, 4, 5, 6] [(h, .inr (6, [.ref h_now, .ref h_trial, .ref h_images, .ref h_imageThere, .ref h_teller, .ref h_ranks, .ref h_court, .ref h_sheets, .int 0, .int 0])), (h_ranks, .inr (1, [.ref q_ahead, .ref q_ways, .int 2])), (q_ahead, .inl (k 0, 5, .inl (hsz))), (q_ways, .inl (k 0, 32, .inl (upd (upd (upd (upd hsz 0 1) 1 1) 2 0) 3 1)))] rfl rfl (by decide) (by decide) [0, 4, 5, 6, 1, 2, 3] (fun u_21 => [(h, .inr (6, [.ref h_now, .ref h_trial, .ref h_images, .ref h_imageThere, .ref h_teller, .ref h_ranks, .ref h_court, .ref h_sheets, .int 0, .int 0])), (h_now, .inr (5, [.ref n_weights, .ref n_kindOf, .ref n_light, .ref n_heavy, .ref n_seenBy, .ref n_seenCut, .ref n_seenFound, .int 2, .int 0, .int 0, .int 0, .int 0, .int 2, .int 1, .int 0])), (n_light, .inl (k 0, 8, .inl (upd hsz 0 0))), (n_heavy, .inl (k 0, 8, .inl (upd hsz 0 1))), (h_ranks, .inr (1, [.ref q_ahead, .ref q_ways, .int 2])), (q_ahead, .inl (k 0, 5, .inl (hsz))), (q_ways, .inl (k 0, 32, .inl (upd (upd (upd (upd hsz 0 1) 1 1) 2 0) 3 1)))]) (fun _ => rfl) (by decide) (fun u_21 H locs hw_20 hP hD hS => ?_)
          have hP : va_P D vwCl [(h, .inr (6, [.ref h_now, .ref h_trial, .ref h_images, .ref h_imageThere, .ref h_teller, .ref h_ranks, .ref h_court, .ref h_sheets, .int 0, .int 0])), (h_now, .inr (5, [.ref n_weights, .ref n_kindOf, .ref n_light, .ref n_heavy, .ref n_seenBy, .ref n_seenCut, .ref n_seenFound, .int 2, .int 0, .int 0, .int 0, .int 0, .int 2, .int 1, .int 0])), (n_light, .inl (k 0, 8, .inl (upd hsz 0 0))), (n_heavy, .inl (k 0, 8, .inl (upd hsz 0 1))), (h_ranks, .inr (1, [.ref q_ahead, .ref q_ways, .int 2])), (q_ahead, .inl (k 0, 5, .inl (hsz))), (q_ways, .inl (k 0, 32, .inl (upd (upd (upd (upd hsz 0 1) 1 1) 2 0) 3 1)))] H := hP
          have hD : va_D A [(h, .inr (6, [.ref h_now, .ref h_trial, .ref h_images, .ref h_imageThere, .ref h_teller, .ref h_ranks, .ref h_court, .ref h_sheets, .int 0, .int 0])), (h_now, .inr (5, [.ref n_weights, .ref n_kindOf, .ref n_light, .ref n_heavy, .ref n_seenBy, .ref n_seenCut, .ref n_seenFound, .int 2, .int 0, .int 0, .int 0, .int 0, .int 2, .int 1, .int 0])), (n_light, .inl (k 0, 8, .inl (upd hsz 0 0))), (n_heavy, .inl (k 0, 8, .inl (upd hsz 0 1))), (h_ranks, .inr (1, [.ref q_ahead, .ref q_ways, .int 2])), (q_ahead, .inl (k 0, 5, .inl (hsz))), (q_ways, .inl (k 0, 32, .inl (upd (upd (upd (upd hsz 0 1) 1 1) 2 0) 3 1)))] := hD
          refine lv_aload_n hx hb dX7_lighter_79 rfl (lv_at hl 0 rfl) ?_
          refine va_get (D := D) (ci := 6) (v := .ref h_now) (C := RX7) (T := TX7) (N := 10) hx hb hts hiX7 hown hK hP 0 rfl rfl 0 (by decide) fl10 (fun _ h9 => h9) rfl dX7_lighter_80 ?_
          refine va_get (D := D) (ci := 5) (v := .int 1) (C := RX6) (T := TX6) (N := 15) hx hb hts hiX6 hown hK hP 1 rfl rfl 13 (by decide) fl111 (fun _ h9 => h9) rfl dX7_lighter_83 ?_
          exact hs_iret hx hb hr hlocks hK hP hD hS () [] rfl (by decide) dX7_lighter_86 (by first | rfl | decide | (simp only [hsb_0, hsb_1] at c_4 c_8 c_10 c_11 c_18; simp [A_lighter, c_4, c_8, c_10, c_11, c_18]; done) | (simp [A_lighter, c_4, c_8, c_10, c_11, c_18]; done))
    · refine lv_aload_n hx hb dX7_lighter_11 rfl (lv_at hl 0 rfl) ?_
      refine va_get (D := D) (ci := 6) (v := .ref h_now) (C := RX7) (T := TX7) (N := 10) hx hb hts hiX7 hown hK hP 0 rfl rfl 0 (by decide) fl10 (fun _ h9 => h9) rfl dX7_lighter_12 ?_
      refine lv_iload_n hx hb dX7_lighter_15 rfl (lv_at hl 2 rfl) ?_
      refine hs_ci (va_runV (As := [.int b]) (rest := []) ⟨hx, hb, hml, hown, hts⟩ (c_isHalf0 l D k _ h_now n_weights n_kindOf n_light n_heavy n_seenBy n_seenCut n_seenFound b) (cwV 1 hts gX7_lighter_X6_isHalf rfl rfl rfl (by decide +kernel) ⟨Nat.le_of_ble_eq_true rfl, Nat.le_of_ble_eq_true rfl⟩) (hs_preV hK hN (hs_subP (w := [(h_now, .inr (5, [.ref n_weights, .ref n_kindOf, .ref n_light, .ref n_heavy, .ref n_seenBy, .ref n_seenCut, .ref n_seenFound, .int 2, .int 0, .int 0, .int 0, .int 0, .int 2, .int 0, .int 0]))]) hP [1] rfl) (hD.sub (ws' := [(h_now, .inr (5, [.ref n_weights, .ref n_kindOf, .ref n_light, .ref n_heavy, .ref n_seenBy, .ref n_seenCut, .ref n_seenFound, .int 2, .int 0, .int 0, .int 0, .int 0, .int 2, .int 0, .int 0]))]) [1] (by decide) rfl) (ci := 5) (q0 := 0) rfl rfl) rfl rfl hl.1 rfl (lv_room (Nat.le_of_ble_eq_true rfl)) dX7_lighter_16 ⟨Nat.le_of_ble_eq_true rfl, Nat.le_of_ble_eq_true rfl⟩) hP hD hS hA [1] [0, 2, 3, 4, 5, 6] [(h, .inr (6, [.ref h_now, .ref h_trial, .ref h_images, .ref h_imageThere, .ref h_teller, .ref h_ranks, .ref h_court, .ref h_sheets, .int 0, .int 0])), (n_light, .inl (k 0, 8, .inl (hsz))), (n_heavy, .inl (k 0, 8, .inl (hsz))), (h_ranks, .inr (1, [.ref q_ahead, .ref q_ways, .int 0])), (q_ahead, .inl (k 0, 5, .inl (hsz))), (q_ways, .inl (k 0, 32, .inl (hsz)))] rfl rfl (by decide) (by decide) [0, 6, 1, 2, 3, 4, 5] (fun u_24 => [(h, .inr (6, [.ref h_now, .ref h_trial, .ref h_images, .ref h_imageThere, .ref h_teller, .ref h_ranks, .ref h_court, .ref h_sheets, .int 0, .int 0])), (h_now, .inr (5, [.ref n_weights, .ref n_kindOf, .ref n_light, .ref n_heavy, .ref n_seenBy, .ref n_seenCut, .ref n_seenFound, .int 2, .int 0, .int 0, .int 0, .int 0, .int 2, .int 0, .int 0])), (n_light, .inl (k 0, 8, .inl (hsz))), (n_heavy, .inl (k 0, 8, .inl (hsz))), (h_ranks, .inr (1, [.ref q_ahead, .ref q_ways, .int 0])), (q_ahead, .inl (k 0, 5, .inl (hsz))), (q_ways, .inl (k 0, 32, .inl (hsz)))]) (fun _ => rfl) (by decide) (fun r_22 u_24 H locs hw_23 hP hD hS => ?_)
      have hP : va_P D vwCl [(h, .inr (6, [.ref h_now, .ref h_trial, .ref h_images, .ref h_imageThere, .ref h_teller, .ref h_ranks, .ref h_court, .ref h_sheets, .int 0, .int 0])), (h_now, .inr (5, [.ref n_weights, .ref n_kindOf, .ref n_light, .ref n_heavy, .ref n_seenBy, .ref n_seenCut, .ref n_seenFound, .int 2, .int 0, .int 0, .int 0, .int 0, .int 2, .int 0, .int 0])), (n_light, .inl (k 0, 8, .inl (hsz))), (n_heavy, .inl (k 0, 8, .inl (hsz))), (h_ranks, .inr (1, [.ref q_ahead, .ref q_ways, .int 0])), (q_ahead, .inl (k 0, 5, .inl (hsz))), (q_ways, .inl (k 0, 32, .inl (hsz)))] H := hP
      have hD : va_D A [(h, .inr (6, [.ref h_now, .ref h_trial, .ref h_images, .ref h_imageThere, .ref h_teller, .ref h_ranks, .ref h_court, .ref h_sheets, .int 0, .int 0])), (h_now, .inr (5, [.ref n_weights, .ref n_kindOf, .ref n_light, .ref n_heavy, .ref n_seenBy, .ref n_seenCut, .ref n_seenFound, .int 2, .int 0, .int 0, .int 0, .int 0, .int 2, .int 0, .int 0])), (n_light, .inl (k 0, 8, .inl (hsz))), (n_heavy, .inl (k 0, 8, .inl (hsz))), (h_ranks, .inr (1, [.ref q_ahead, .ref q_ways, .int 0])), (q_ahead, .inl (k 0, 5, .inl (hsz))), (q_ways, .inl (k 0, 32, .inl (hsz)))] := hD
      refine hs_topi (hsb (hsin b 0 1)) hw_23 ?_
      refine lv_if_eq (tgt := 27) hx hb dX7_lighter_19 (by decide) (fun c_25 => ?_) (fun c_25 => ?_)
      · refine lv_iconst (v := (-1)) hx hb dX7_lighter_27 (by decide) ?_
        exact hs_iret hx hb hr hlocks hK hP hD hS () [] rfl (by decide) dX7_lighter_28 (by first | rfl | decide | (simp only [hsb_0, hsb_1] at c_4 c_25; simp [A_lighter, c_4, c_25]; done) | (simp [A_lighter, c_4, c_25]; done))
      · rcases hs_v01 (hs_nb c_25) with rfl | rfl
        · refine lv_iload_n hx hb dX7_lighter_22 rfl (lv_at hl 1 rfl) ?_
          refine lv_iload_n hx hb dX7_lighter_23 rfl (lv_at hl 2 rfl) ?_
          refine lv_icmp_ne (tgt := 29) hx hb dX7_lighter_24 (by decide) (fun c_26 => ?_) (fun c_26 => absurd c_26 (by decide))
          refine lv_aload_n hx hb dX7_lighter_29 rfl (lv_at hl 0 rfl) ?_
          refine va_get (D := D) (ci := 6) (v := .ref h_now) (C := RX7) (T := TX7) (N := 10) hx hb hts hiX7 hown hK hP 0 rfl rfl 0 (by decide) fl10 (fun _ h9 => h9) rfl dX7_lighter_30 ?_
          refine va_get (D := D) (ci := 5) (v := .int 0) (C := RX6) (T := TX6) (N := 15) hx hb hts hiX6 hown hK hP 1 rfl rfl 13 (by decide) fl111 (fun _ h9 => h9) rfl dX7_lighter_33 ?_
          refine lv_bipush (v := 8) hx hb dX7_lighter_36 (by decide) ?_
          refine lv_icmp_lt (tgt := 44) hx hb dX7_lighter_38 (by decide) (fun c_27 => ?_) (fun c_27 => absurd c_27 (by decide))
          refine lv_aload_n hx hb dX7_lighter_44 rfl (lv_at hl 0 rfl) ?_
          refine va_get (D := D) (ci := 6) (v := .ref h_ranks) (C := RX7) (T := TX7) (N := 10) hx hb hts hiX7 hown hK hP 0 rfl rfl 5 (by decide) fl37 (fun _ h9 => h9) rfl dX7_lighter_45 ?_
          refine lv_aload_n hx hb dX7_lighter_48 rfl (lv_at hl 0 rfl) ?_
          refine va_get (D := D) (ci := 6) (v := .ref h_now) (C := RX7) (T := TX7) (N := 10) hx hb hts hiX7 hown hK hP 0 rfl rfl 0 (by decide) fl10 (fun _ h9 => h9) rfl dX7_lighter_49 ?_
          refine hs_cv (va_runV (As := [.ref h_now]) (rest := []) ⟨hx, hb, hml, hown, hts⟩ (c_learn0 l D k _ h_ranks q_ahead q_ways 0 h_now n_weights n_kindOf n_light n_heavy n_seenBy n_seenCut n_seenFound) (cwV 1 hts gX7_lighter_X2_learn rfl rfl rfl (by decide +kernel) ⟨Nat.le_of_ble_eq_true rfl, Nat.le_of_ble_eq_true rfl⟩) (hs_preV hK hN (hs_subP (w := [(h_ranks, .inr (1, [.ref q_ahead, .ref q_ways, .int 0])), (q_ahead, .inl (k 0, 5, .inl (hsz))), (h_now, .inr (5, [.ref n_weights, .ref n_kindOf, .ref n_light, .ref n_heavy, .ref n_seenBy, .ref n_seenCut, .ref n_seenFound, .int 2, .int 0, .int 0, .int 0, .int 0, .int 2, .int 0, .int 0]))]) hP [4, 5, 1] rfl) (hD.sub (ws' := [(h_ranks, .inr (1, [.ref q_ahead, .ref q_ways, .int 0])), (q_ahead, .inl (k 0, 5, .inl (hsz))), (h_now, .inr (5, [.ref n_weights, .ref n_kindOf, .ref n_light, .ref n_heavy, .ref n_seenBy, .ref n_seenCut, .ref n_seenFound, .int 2, .int 0, .int 0, .int 0, .int 0, .int 2, .int 0, .int 0]))]) [4, 5, 1] (by decide) rfl) (ci := 1) (q0 := 0) rfl rfl) rfl rfl hl.1 rfl (lv_room (Nat.le_of_ble_eq_true rfl)) dX7_lighter_52 ⟨Nat.le_of_ble_eq_true rfl, Nat.le_of_ble_eq_true rfl⟩) hP hD hS hA [4, 5, 1] [0, 2, 3, 6] [(h, .inr (6, [.ref h_now, .ref h_trial, .ref h_images, .ref h_imageThere, .ref h_teller, .ref h_ranks, .ref h_court, .ref h_sheets, .int 0, .int 0])), (n_light, .inl (k 0, 8, .inl (hsz))), (n_heavy, .inl (k 0, 8, .inl (hsz))), (q_ways, .inl (k 0, 32, .inl (hsz)))] rfl rfl (by decide) (by decide) [0, 6, 1, 2, 4, 5, 3] (fun u_30 => [(h, .inr (6, [.ref h_now, .ref h_trial, .ref h_images, .ref h_imageThere, .ref h_teller, .ref h_ranks, .ref h_court, .ref h_sheets, .int 0, .int 0])), (h_now, .inr (5, [.ref n_weights, .ref n_kindOf, .ref n_light, .ref n_heavy, .ref n_seenBy, .ref n_seenCut, .ref n_seenFound, .int 2, .int 0, .int 0, .int 0, .int 0, .int 2, .int 0, .int 0])), (n_light, .inl (k 0, 8, .inl (hsz))), (n_heavy, .inl (k 0, 8, .inl (hsz))), (h_ranks, .inr (1, [.ref q_ahead, .ref q_ways, .int 2])), (q_ahead, .inl (k 0, 5, .inl (hsz))), (q_ways, .inl (k 0, 32, .inl (hsz)))]) (fun _ => rfl) (by decide) (fun u_30 H locs hw_29 hP hD hS => ?_)
          have hP : va_P D vwCl [(h, .inr (6, [.ref h_now, .ref h_trial, .ref h_images, .ref h_imageThere, .ref h_teller, .ref h_ranks, .ref h_court, .ref h_sheets, .int 0, .int 0])), (h_now, .inr (5, [.ref n_weights, .ref n_kindOf, .ref n_light, .ref n_heavy, .ref n_seenBy, .ref n_seenCut, .ref n_seenFound, .int 2, .int 0, .int 0, .int 0, .int 0, .int 2, .int 0, .int 0])), (n_light, .inl (k 0, 8, .inl (hsz))), (n_heavy, .inl (k 0, 8, .inl (hsz))), (h_ranks, .inr (1, [.ref q_ahead, .ref q_ways, .int 2])), (q_ahead, .inl (k 0, 5, .inl (hsz))), (q_ways, .inl (k 0, 32, .inl (hsz)))] H := hP
          have hD : va_D A [(h, .inr (6, [.ref h_now, .ref h_trial, .ref h_images, .ref h_imageThere, .ref h_teller, .ref h_ranks, .ref h_court, .ref h_sheets, .int 0, .int 0])), (h_now, .inr (5, [.ref n_weights, .ref n_kindOf, .ref n_light, .ref n_heavy, .ref n_seenBy, .ref n_seenCut, .ref n_seenFound, .int 2, .int 0, .int 0, .int 0, .int 0, .int 2, .int 0, .int 0])), (n_light, .inl (k 0, 8, .inl (hsz))), (n_heavy, .inl (k 0, 8, .inl (hsz))), (h_ranks, .inr (1, [.ref q_ahead, .ref q_ways, .int 2])), (q_ahead, .inl (k 0, 5, .inl (hsz))), (q_ways, .inl (k 0, 32, .inl (hsz)))] := hD
          refine lv_aload_n hx hb dX7_lighter_55 rfl (lv_at hl 0 rfl) ?_
          refine va_get (D := D) (ci := 6) (v := .ref h_ranks) (C := RX7) (T := TX7) (N := 10) hx hb hts hiX7 hown hK hP 0 rfl rfl 5 (by decide) fl37 (fun _ h9 => h9) rfl dX7_lighter_56 ?_
          refine lv_iload_n hx hb dX7_lighter_59 rfl (lv_at hl 1 rfl) ?_
          refine lv_iload_n hx hb dX7_lighter_60 rfl (lv_at hl 2 rfl) ?_
          refine hs_ci (va_runV (As := [.int 1, .int 0]) (rest := []) ⟨hx, hb, hml, hown, hts⟩ (c_howManyWith_10 l D k _ h_ranks q_ahead q_ways hsz) (cwV 2 hts gX7_lighter_X2_howManyWith rfl rfl rfl (by decide +kernel) ⟨Nat.le_of_ble_eq_true rfl, Nat.le_of_ble_eq_true rfl⟩) (hs_preV hK hN (hs_subP (w := [(h_ranks, .inr (1, [.ref q_ahead, .ref q_ways, .int 2])), (q_ahead, .inl (k 0, 5, .inl (hsz))), (q_ways, .inl (k 0, 32, .inl (hsz)))]) hP [4, 5, 6] rfl) (hD.sub (ws' := [(h_ranks, .inr (1, [.ref q_ahead, .ref q_ways, .int 2])), (q_ahead, .inl (k 0, 5, .inl (hsz))), (q_ways, .inl (k 0, 32, .inl (hsz)))]) [4, 5, 6] (by decide) rfl) (ci := 1) (q0 := 0) rfl rfl) rfl rfl hl.1 rfl (lv_room (Nat.le_of_ble_eq_true rfl)) dX7_lighter_61 ⟨Nat.le_of_ble_eq_true rfl, Nat.le_of_ble_eq_true rfl⟩) hP hD hS hA [4, 5, 6] [0, 1, 2, 3] [(h, .inr (6, [.ref h_now, .ref h_trial, .ref h_images, .ref h_imageThere, .ref h_teller, .ref h_ranks, .ref h_court, .ref h_sheets, .int 0, .int 0])), (h_now, .inr (5, [.ref n_weights, .ref n_kindOf, .ref n_light, .ref n_heavy, .ref n_seenBy, .ref n_seenCut, .ref n_seenFound, .int 2, .int 0, .int 0, .int 0, .int 0, .int 2, .int 0, .int 0])), (n_light, .inl (k 0, 8, .inl (hsz))), (n_heavy, .inl (k 0, 8, .inl (hsz)))] rfl rfl (by decide) (by decide) [0, 1, 2, 3, 4, 5, 6] (fun u_33 => [(h, .inr (6, [.ref h_now, .ref h_trial, .ref h_images, .ref h_imageThere, .ref h_teller, .ref h_ranks, .ref h_court, .ref h_sheets, .int 0, .int 0])), (h_now, .inr (5, [.ref n_weights, .ref n_kindOf, .ref n_light, .ref n_heavy, .ref n_seenBy, .ref n_seenCut, .ref n_seenFound, .int 2, .int 0, .int 0, .int 0, .int 0, .int 2, .int 0, .int 0])), (n_light, .inl (k 0, 8, .inl (hsz))), (n_heavy, .inl (k 0, 8, .inl (hsz))), (h_ranks, .inr (1, [.ref q_ahead, .ref q_ways, .int 2])), (q_ahead, .inl (k 0, 5, .inl (hsz))), (q_ways, .inl (k 0, 32, .inl (upd (upd (upd (upd hsz 0 1) 1 0) 2 1) 3 1)))]) (fun _ => rfl) (by decide) (fun r_31 u_33 H locs hw_32 hP hD hS => ?_)
          have hP : va_P D vwCl [(h, .inr (6, [.ref h_now, .ref h_trial, .ref h_images, .ref h_imageThere, .ref h_teller, .ref h_ranks, .ref h_court, .ref h_sheets, .int 0, .int 0])), (h_now, .inr (5, [.ref n_weights, .ref n_kindOf, .ref n_light, .ref n_heavy, .ref n_seenBy, .ref n_seenCut, .ref n_seenFound, .int 2, .int 0, .int 0, .int 0, .int 0, .int 2, .int 0, .int 0])), (n_light, .inl (k 0, 8, .inl (hsz))), (n_heavy, .inl (k 0, 8, .inl (hsz))), (h_ranks, .inr (1, [.ref q_ahead, .ref q_ways, .int 2])), (q_ahead, .inl (k 0, 5, .inl (hsz))), (q_ways, .inl (k 0, 32, .inl (upd (upd (upd (upd hsz 0 1) 1 0) 2 1) 3 1)))] H := hP
          have hD : va_D A [(h, .inr (6, [.ref h_now, .ref h_trial, .ref h_images, .ref h_imageThere, .ref h_teller, .ref h_ranks, .ref h_court, .ref h_sheets, .int 0, .int 0])), (h_now, .inr (5, [.ref n_weights, .ref n_kindOf, .ref n_light, .ref n_heavy, .ref n_seenBy, .ref n_seenCut, .ref n_seenFound, .int 2, .int 0, .int 0, .int 0, .int 0, .int 2, .int 0, .int 0])), (n_light, .inl (k 0, 8, .inl (hsz))), (n_heavy, .inl (k 0, 8, .inl (hsz))), (h_ranks, .inr (1, [.ref q_ahead, .ref q_ways, .int 2])), (q_ahead, .inl (k 0, 5, .inl (hsz))), (q_ways, .inl (k 0, 32, .inl (upd (upd (upd (upd hsz 0 1) 1 0) 2 1) 3 1)))] := hD
          refine hs_topi 1 (hw_32.trans (by first | rfl | decide +kernel | rfl)) ?_
          refine lv_if_ne (tgt := 70) hx hb dX7_lighter_64 (by decide) (fun c_34 => ?_) (fun c_34 => absurd c_34 (by decide))
          refine lv_aload_n hx hb dX7_lighter_70 rfl (lv_at hl 0 rfl) ?_
          refine va_get (D := D) (ci := 6) (v := .ref h_now) (C := RX7) (T := TX7) (N := 10) hx hb hts hiX7 hown hK hP 0 rfl rfl 0 (by decide) fl10 (fun _ h9 => h9) rfl dX7_lighter_71 ?_
          refine lv_iload_n hx hb dX7_lighter_74 rfl (lv_at hl 1 rfl) ?_
          refine lv_iload_n hx hb dX7_lighter_75 rfl (lv_at hl 2 rfl) ?_
          refine hs_cv (va_runV (As := [.int 1, .int 0]) (rest := []) ⟨hx, hb, hml, hown, hts⟩ (c_addPair0 l D k _ h_now n_weights n_kindOf n_light n_heavy n_seenBy n_seenCut n_seenFound 1 0 hsz hsz) (cwV 2 hts gX7_lighter_X6_addPair rfl rfl rfl (by decide +kernel) ⟨Nat.le_of_ble_eq_true rfl, Nat.le_of_ble_eq_true rfl⟩) (hs_preV hK hN (hs_subP (w := [(h_now, .inr (5, [.ref n_weights, .ref n_kindOf, .ref n_light, .ref n_heavy, .ref n_seenBy, .ref n_seenCut, .ref n_seenFound, .int 2, .int 0, .int 0, .int 0, .int 0, .int 2, .int 0, .int 0])), (n_light, .inl (k 0, 8, .inl (hsz))), (n_heavy, .inl (k 0, 8, .inl (hsz)))]) hP [1, 2, 3] rfl) (hD.sub (ws' := [(h_now, .inr (5, [.ref n_weights, .ref n_kindOf, .ref n_light, .ref n_heavy, .ref n_seenBy, .ref n_seenCut, .ref n_seenFound, .int 2, .int 0, .int 0, .int 0, .int 0, .int 2, .int 0, .int 0])), (n_light, .inl (k 0, 8, .inl (hsz))), (n_heavy, .inl (k 0, 8, .inl (hsz)))]) [1, 2, 3] (by decide) rfl) (ci := 5) (q0 := 0) rfl rfl) rfl rfl hl.1 rfl (lv_room (Nat.le_of_ble_eq_true rfl)) dX7_lighter_76 ⟨Nat.le_of_ble_eq_true rfl, Nat.le_of_ble_eq_true rfl⟩) hP hD hS hA [1, 2, 3] [0, 4, 5, 6] [(h, .inr (6, [.ref h_now, .ref h_trial, .ref h_images, .ref h_imageThere, .ref h_teller, .ref h_ranks, .ref h_court, .ref h_sheets, .int 0, .int 0])), (h_ranks, .inr (1, [.ref q_ahead, .ref q_ways, .int 2])), (q_ahead, .inl (k 0, 5, .inl (hsz))), (q_ways, .inl (k 0, 32, .inl (upd (upd (upd (upd hsz 0 1) 1 0) 2 1) 3 1)))] rfl rfl (by decide) (by decide) [0, 4, 5, 6, 1, 2, 3] (fun u_37 => [(h, .inr (6, [.ref h_now, .ref h_trial, .ref h_images, .ref h_imageThere, .ref h_teller, .ref h_ranks, .ref h_court, .ref h_sheets, .int 0, .int 0])), (h_now, .inr (5, [.ref n_weights, .ref n_kindOf, .ref n_light, .ref n_heavy, .ref n_seenBy, .ref n_seenCut, .ref n_seenFound, .int 2, .int 0, .int 0, .int 0, .int 0, .int 2, .int 1, .int 0])), (n_light, .inl (k 0, 8, .inl (upd hsz 0 1))), (n_heavy, .inl (k 0, 8, .inl (upd hsz 0 0))), (h_ranks, .inr (1, [.ref q_ahead, .ref q_ways, .int 2])), (q_ahead, .inl (k 0, 5, .inl (hsz))), (q_ways, .inl (k 0, 32, .inl (upd (upd (upd (upd hsz 0 1) 1 0) 2 1) 3 1)))]) (fun _ => rfl) (by decide) (fun u_37 H locs hw_36 hP hD hS => ?_)
          have hP : va_P D vwCl [(h, .inr (6, [.ref h_now, .ref h_trial, .ref h_images, .ref h_imageThere, .ref h_teller, .ref h_ranks, .ref h_court, .ref h_sheets, .int 0, .int 0])), (h_now, .inr (5, [.ref n_weights, .ref n_kindOf, .ref n_light, .ref n_heavy, .ref n_seenBy, .ref n_seenCut, .ref n_seenFound, .int 2, .int 0, .int 0, .int 0, .int 0, .int 2, .int 1, .int 0])), (n_light, .inl (k 0, 8, .inl (upd hsz 0 1))), (n_heavy, .inl (k 0, 8, .inl (upd hsz 0 0))), (h_ranks, .inr (1, [.ref q_ahead, .ref q_ways, .int 2])), (q_ahead, .inl (k 0, 5, .inl (hsz))), (q_ways, .inl (k 0, 32, .inl (upd (upd (upd (upd hsz 0 1) 1 0) 2 1) 3 1)))] H := hP
          have hD : va_D A [(h, .inr (6, [.ref h_now, .ref h_trial, .ref h_images, .ref h_imageThere, .ref h_teller, .ref h_ranks, .ref h_court, .ref h_sheets, .int 0, .int 0])), (h_now, .inr (5, [.ref n_weights, .ref n_kindOf, .ref n_light, .ref n_heavy, .ref n_seenBy, .ref n_seenCut, .ref n_seenFound, .int 2, .int 0, .int 0, .int 0, .int 0, .int 2, .int 1, .int 0])), (n_light, .inl (k 0, 8, .inl (upd hsz 0 1))), (n_heavy, .inl (k 0, 8, .inl (upd hsz 0 0))), (h_ranks, .inr (1, [.ref q_ahead, .ref q_ways, .int 2])), (q_ahead, .inl (k 0, 5, .inl (hsz))), (q_ways, .inl (k 0, 32, .inl (upd (upd (upd (upd hsz 0 1) 1 0) 2 1) 3 1)))] := hD
          refine lv_aload_n hx hb dX7_lighter_79 rfl (lv_at hl 0 rfl) ?_
          refine va_get (D := D) (ci := 6) (v := .ref h_now) (C := RX7) (T := TX7) (N := 10) hx hb hts hiX7 hown hK hP 0 rfl rfl 0 (by decide) fl10 (fun _ h9 => h9) rfl dX7_lighter_80 ?_
          refine va_get (D := D) (ci := 5) (v := .int 1) (C := RX6) (T := TX6) (N := 15) hx hb hts hiX6 hown hK hP 1 rfl rfl 13 (by decide) fl111 (fun _ h9 => h9) rfl dX7_lighter_83 ?_
          exact hs_iret hx hb hr hlocks hK hP hD hS () [] rfl (by decide) dX7_lighter_86 (by first | rfl | decide | (simp only [hsb_0, hsb_1] at c_4 c_25 c_26 c_27 c_34; simp [A_lighter, c_4, c_25, c_26, c_27, c_34]; done) | (simp [A_lighter, c_4, c_25, c_26, c_27, c_34]; done))
        · refine lv_iload_n hx hb dX7_lighter_22 rfl (lv_at hl 1 rfl) ?_
          refine lv_iload_n hx hb dX7_lighter_23 rfl (lv_at hl 2 rfl) ?_
          refine lv_icmp_ne (tgt := 29) hx hb dX7_lighter_24 (by decide) (fun c_38 => absurd c_38 (by decide)) (fun c_38 => ?_)
          refine lv_iconst (v := (-1)) hx hb dX7_lighter_27 (by decide) ?_
          exact hs_iret hx hb hr hlocks hK hP hD hS () [] rfl (by decide) dX7_lighter_28 (by first | rfl | decide | (simp only [hsb_0, hsb_1] at c_4 c_25 c_38; simp [A_lighter, c_4, c_25, c_38]; done) | (simp [A_lighter, c_4, c_25, c_38]; done))

set_option maxHeartbeats 4000000 in
set_option maxRecDepth 100000 in
theorem p_worth (l : Launch) (D : va_G) (k : Nat → ClassId) (sz : Nat) (h : Nat) (h_now : Nat) (h_trial : Nat) (h_images : Nat) (h_imageThere : Nat) (h_teller : Nat) (h_ranks : Nat) (h_court : Nat) (h_sheets : Nat) (n_weights : Nat) (n_kindOf : Nat) (n_light : Nat) (n_heavy : Nat) (n_seenBy : Nat) (n_seenCut : Nat) (n_seenFound : Nat) (i : Int32) (v : Int32)  : MI l yX7_worth wsX7_worth ({ frames := 2, cells := 0, slots := 0, locals := 43 }) D k [.ref h, .int i, .int v] [(h, .inr (6, [.ref h_now, .ref h_trial, .ref h_images, .ref h_imageThere, .ref h_teller, .ref h_ranks, .ref h_court, .ref h_sheets, .int 0, .int 0])), (h_now, .inr (5, [.ref n_weights, .ref n_kindOf, .ref n_light, .ref n_heavy, .ref n_seenBy, .ref n_seenCut, .ref n_seenFound, .int 2, .int 0, .int 0, .int 0, .int 0, .int 2, .int 0, .int 0]))] sz (fun (r : Int32) (u : Unit) => r = A_worth i v) (fun (u : Unit) => []) := by
  refine Met.ofW (cc := cX7_worth) (maxL := 3) (ret := (some .int)) (by decide) rfl ?_
  intro p e s m args below meth c s₁ B hml hv
  obtain ⟨rfl, hsz, hP, hK, hD0, hN⟩ := hv
  have hx := B.exec
  have hb := B.bytes
  have hr := B.returns
  have hlocks := B.notSynchronized
  have hts := atoms_spec (ws := wsX7_worth) B.pre
  have hown : s.vm.findClass RX7 = some m.cls := findClass_of_methodNamed B.named
  have hiX7 : ∀ w ∈ u_ws RX7 TX7 10, w ∈ wsX7_worth := by decide +kernel
  have fl10 := hts (.fieldLink RX7 10 "HalfScales" "now" "LHalfScales$Thing;") (by decide +kernel)
  subst hsz
  have hD := hD0.self (sz := s.heap.size)
  generalize hAe : va_A [(h, .inr (6, [.ref h_now, .ref h_trial, .ref h_images, .ref h_imageThere, .ref h_teller, .ref h_ranks, .ref h_court, .ref h_sheets, .int 0, .int 0])), (h_now, .inr (5, [.ref n_weights, .ref n_kindOf, .ref n_light, .ref n_heavy, .ref n_seenBy, .ref n_seenCut, .ref n_seenFound, .int 2, .int 0, .int 0, .int 0, .int 0, .int 2, .int 0, .int 0]))] s.heap.size = A at hD ⊢
  have hA : ∀ q : Nat, s.heap.size ≤ q → A q := fun q h => by rw [← hAe]; exact Or.inr h
  have hS : va_S A s.heap s.heap [] := va_S.rf
  have hl := lv_entry ([.ref h, .int i, .int v]) (n := 3) (Nat.le_of_ble_eq_true rfl)
  rw [lg_entry_eq]
  generalize (lg_sl ([.ref h, .int i, .int v]) ++ List.replicate (3 - (lg_sl ([.ref h, .int i, .int v])).length) Slot.unset).toArray = ls at hl ⊢
  have hl : lv_has ls 3 [(0, .ref h), (1, .int i), (2, .int v)] := hl
  have hP : va_P D vwCl [(h, .inr (6, [.ref h_now, .ref h_trial, .ref h_images, .ref h_imageThere, .ref h_teller, .ref h_ranks, .ref h_court, .ref h_sheets, .int 0, .int 0])), (h_now, .inr (5, [.ref n_weights, .ref n_kindOf, .ref n_light, .ref n_heavy, .ref n_seenBy, .ref n_seenCut, .ref n_seenFound, .int 2, .int 0, .int 0, .int 0, .int 0, .int 2, .int 0, .int 0]))] s.heap := hP
  refine lv_aload_n hx hb dX7_worth_0 rfl (lv_at hl 0 rfl) ?_
  refine va_get (D := D) (ci := 6) (v := .ref h_now) (C := RX7) (T := TX7) (N := 10) hx hb hts hiX7 hown hK hP 0 rfl rfl 0 (by decide) fl10 (fun _ h9 => h9) rfl dX7_worth_1 ?_
  refine lv_iload_n hx hb dX7_worth_4 rfl (lv_at hl 1 rfl) ?_
  refine hs_ci (va_runV (As := [.int i]) (rest := []) ⟨hx, hb, hml, hown, hts⟩ (c_isPerson0 l D k _ h_now n_weights n_kindOf n_light n_heavy n_seenBy n_seenCut n_seenFound i) (cwV 1 hts gX7_worth_X6_isPerson rfl rfl rfl (by decide +kernel) ⟨Nat.le_of_ble_eq_true rfl, Nat.le_of_ble_eq_true rfl⟩) (hs_preV hK hN (hs_subP (w := [(h_now, .inr (5, [.ref n_weights, .ref n_kindOf, .ref n_light, .ref n_heavy, .ref n_seenBy, .ref n_seenCut, .ref n_seenFound, .int 2, .int 0, .int 0, .int 0, .int 0, .int 2, .int 0, .int 0]))]) hP [1] rfl) (hD.sub (ws' := [(h_now, .inr (5, [.ref n_weights, .ref n_kindOf, .ref n_light, .ref n_heavy, .ref n_seenBy, .ref n_seenCut, .ref n_seenFound, .int 2, .int 0, .int 0, .int 0, .int 0, .int 2, .int 0, .int 0]))]) [1] (by decide) rfl) (ci := 5) (q0 := 0) rfl rfl) rfl rfl hl.1 rfl (lv_room (Nat.le_of_ble_eq_true rfl)) dX7_worth_5 ⟨Nat.le_of_ble_eq_true rfl, Nat.le_of_ble_eq_true rfl⟩) hP hD hS hA [1] [0] [(h, .inr (6, [.ref h_now, .ref h_trial, .ref h_images, .ref h_imageThere, .ref h_teller, .ref h_ranks, .ref h_court, .ref h_sheets, .int 0, .int 0]))] rfl rfl (by decide) (by decide) [0, 1] (fun u_3 => [(h, .inr (6, [.ref h_now, .ref h_trial, .ref h_images, .ref h_imageThere, .ref h_teller, .ref h_ranks, .ref h_court, .ref h_sheets, .int 0, .int 0])), (h_now, .inr (5, [.ref n_weights, .ref n_kindOf, .ref n_light, .ref n_heavy, .ref n_seenBy, .ref n_seenCut, .ref n_seenFound, .int 2, .int 0, .int 0, .int 0, .int 0, .int 2, .int 0, .int 0]))]) (fun _ => rfl) (by decide) (fun r_1 u_3 H locs hw_2 hP hD hS => ?_)
  have hP : va_P D vwCl [(h, .inr (6, [.ref h_now, .ref h_trial, .ref h_images, .ref h_imageThere, .ref h_teller, .ref h_ranks, .ref h_court, .ref h_sheets, .int 0, .int 0])), (h_now, .inr (5, [.ref n_weights, .ref n_kindOf, .ref n_light, .ref n_heavy, .ref n_seenBy, .ref n_seenCut, .ref n_seenFound, .int 2, .int 0, .int 0, .int 0, .int 0, .int 2, .int 0, .int 0]))] H := hP
  have hD : va_D A [(h, .inr (6, [.ref h_now, .ref h_trial, .ref h_images, .ref h_imageThere, .ref h_teller, .ref h_ranks, .ref h_court, .ref h_sheets, .int 0, .int 0])), (h_now, .inr (5, [.ref n_weights, .ref n_kindOf, .ref n_light, .ref n_heavy, .ref n_seenBy, .ref n_seenCut, .ref n_seenFound, .int 2, .int 0, .int 0, .int 0, .int 0, .int 2, .int 0, .int 0]))] := hD
  refine hs_topi 0 (hw_2.trans (by first | rfl | decide +kernel | rfl)) ?_
  refine lv_if_eq (tgt := 26) hx hb dX7_worth_8 (by decide) (fun c_4 => ?_) (fun c_4 => absurd c_4 (by decide))
  refine lv_iconst (v := (-1)) hx hb dX7_worth_26 (by decide) ?_
  exact hs_iret hx hb hr hlocks hK hP hD hS () [] rfl (by decide) dX7_worth_27 (by first | rfl | decide | (simp only [hsb_0, hsb_1] at c_4; simp [A_worth, c_4]; done) | (simp [A_worth, c_4]; done))

set_option maxHeartbeats 4000000 in
set_option maxRecDepth 100000 in
theorem p_finds (l : Launch) (D : va_G) (k : Nat → ClassId) (sz : Nat) (h : Nat) (h_now : Nat) (h_trial : Nat) (h_images : Nat) (h_imageThere : Nat) (h_teller : Nat) (h_ranks : Nat) (h_court : Nat) (h_sheets : Nat) (n_weights : Nat) (n_kindOf : Nat) (n_light : Nat) (n_heavy : Nat) (n_seenBy : Nat) (n_seenCut : Nat) (n_seenFound : Nat) (i : Int32) (v : Int32)  : MI l yX7_finds wsX7_finds ({ frames := 2, cells := 0, slots := 0, locals := 43 }) D k [.ref h, .int i, .int v] [(h, .inr (6, [.ref h_now, .ref h_trial, .ref h_images, .ref h_imageThere, .ref h_teller, .ref h_ranks, .ref h_court, .ref h_sheets, .int 0, .int 0])), (h_now, .inr (5, [.ref n_weights, .ref n_kindOf, .ref n_light, .ref n_heavy, .ref n_seenBy, .ref n_seenCut, .ref n_seenFound, .int 2, .int 0, .int 0, .int 0, .int 0, .int 2, .int 0, .int 0]))] sz (fun (r : Int32) (u : Unit) => r = A_finds i v) (fun (u : Unit) => []) := by
  refine Met.ofW (cc := cX7_finds) (maxL := 3) (ret := (some .int)) (by decide) rfl ?_
  intro p e s m args below meth c s₁ B hml hv
  obtain ⟨rfl, hsz, hP, hK, hD0, hN⟩ := hv
  have hx := B.exec
  have hb := B.bytes
  have hr := B.returns
  have hlocks := B.notSynchronized
  have hts := atoms_spec (ws := wsX7_finds) B.pre
  have hown : s.vm.findClass RX7 = some m.cls := findClass_of_methodNamed B.named
  have hiX7 : ∀ w ∈ u_ws RX7 TX7 10, w ∈ wsX7_finds := by decide +kernel
  have fl10 := hts (.fieldLink RX7 10 "HalfScales" "now" "LHalfScales$Thing;") (by decide +kernel)
  subst hsz
  have hD := hD0.self (sz := s.heap.size)
  generalize hAe : va_A [(h, .inr (6, [.ref h_now, .ref h_trial, .ref h_images, .ref h_imageThere, .ref h_teller, .ref h_ranks, .ref h_court, .ref h_sheets, .int 0, .int 0])), (h_now, .inr (5, [.ref n_weights, .ref n_kindOf, .ref n_light, .ref n_heavy, .ref n_seenBy, .ref n_seenCut, .ref n_seenFound, .int 2, .int 0, .int 0, .int 0, .int 0, .int 2, .int 0, .int 0]))] s.heap.size = A at hD ⊢
  have hA : ∀ q : Nat, s.heap.size ≤ q → A q := fun q h => by rw [← hAe]; exact Or.inr h
  have hS : va_S A s.heap s.heap [] := va_S.rf
  have hl := lv_entry ([.ref h, .int i, .int v]) (n := 3) (Nat.le_of_ble_eq_true rfl)
  rw [lg_entry_eq]
  generalize (lg_sl ([.ref h, .int i, .int v]) ++ List.replicate (3 - (lg_sl ([.ref h, .int i, .int v])).length) Slot.unset).toArray = ls at hl ⊢
  have hl : lv_has ls 3 [(0, .ref h), (1, .int i), (2, .int v)] := hl
  have hP : va_P D vwCl [(h, .inr (6, [.ref h_now, .ref h_trial, .ref h_images, .ref h_imageThere, .ref h_teller, .ref h_ranks, .ref h_court, .ref h_sheets, .int 0, .int 0])), (h_now, .inr (5, [.ref n_weights, .ref n_kindOf, .ref n_light, .ref n_heavy, .ref n_seenBy, .ref n_seenCut, .ref n_seenFound, .int 2, .int 0, .int 0, .int 0, .int 0, .int 2, .int 0, .int 0]))] s.heap := hP
  refine lv_aload_n hx hb dX7_finds_0 rfl (lv_at hl 0 rfl) ?_
  refine va_get (D := D) (ci := 6) (v := .ref h_now) (C := RX7) (T := TX7) (N := 10) hx hb hts hiX7 hown hK hP 0 rfl rfl 0 (by decide) fl10 (fun _ h9 => h9) rfl dX7_finds_1 ?_
  refine lv_iload_n hx hb dX7_finds_4 rfl (lv_at hl 1 rfl) ?_
  refine hs_ci (va_runV (As := [.int i]) (rest := []) ⟨hx, hb, hml, hown, hts⟩ (c_isPerson0 l D k _ h_now n_weights n_kindOf n_light n_heavy n_seenBy n_seenCut n_seenFound i) (cwV 1 hts gX7_finds_X6_isPerson rfl rfl rfl (by decide +kernel) ⟨Nat.le_of_ble_eq_true rfl, Nat.le_of_ble_eq_true rfl⟩) (hs_preV hK hN (hs_subP (w := [(h_now, .inr (5, [.ref n_weights, .ref n_kindOf, .ref n_light, .ref n_heavy, .ref n_seenBy, .ref n_seenCut, .ref n_seenFound, .int 2, .int 0, .int 0, .int 0, .int 0, .int 2, .int 0, .int 0]))]) hP [1] rfl) (hD.sub (ws' := [(h_now, .inr (5, [.ref n_weights, .ref n_kindOf, .ref n_light, .ref n_heavy, .ref n_seenBy, .ref n_seenCut, .ref n_seenFound, .int 2, .int 0, .int 0, .int 0, .int 0, .int 2, .int 0, .int 0]))]) [1] (by decide) rfl) (ci := 5) (q0 := 0) rfl rfl) rfl rfl hl.1 rfl (lv_room (Nat.le_of_ble_eq_true rfl)) dX7_finds_5 ⟨Nat.le_of_ble_eq_true rfl, Nat.le_of_ble_eq_true rfl⟩) hP hD hS hA [1] [0] [(h, .inr (6, [.ref h_now, .ref h_trial, .ref h_images, .ref h_imageThere, .ref h_teller, .ref h_ranks, .ref h_court, .ref h_sheets, .int 0, .int 0]))] rfl rfl (by decide) (by decide) [0, 1] (fun u_3 => [(h, .inr (6, [.ref h_now, .ref h_trial, .ref h_images, .ref h_imageThere, .ref h_teller, .ref h_ranks, .ref h_court, .ref h_sheets, .int 0, .int 0])), (h_now, .inr (5, [.ref n_weights, .ref n_kindOf, .ref n_light, .ref n_heavy, .ref n_seenBy, .ref n_seenCut, .ref n_seenFound, .int 2, .int 0, .int 0, .int 0, .int 0, .int 2, .int 0, .int 0]))]) (fun _ => rfl) (by decide) (fun r_1 u_3 H locs hw_2 hP hD hS => ?_)
  have hP : va_P D vwCl [(h, .inr (6, [.ref h_now, .ref h_trial, .ref h_images, .ref h_imageThere, .ref h_teller, .ref h_ranks, .ref h_court, .ref h_sheets, .int 0, .int 0])), (h_now, .inr (5, [.ref n_weights, .ref n_kindOf, .ref n_light, .ref n_heavy, .ref n_seenBy, .ref n_seenCut, .ref n_seenFound, .int 2, .int 0, .int 0, .int 0, .int 0, .int 2, .int 0, .int 0]))] H := hP
  have hD : va_D A [(h, .inr (6, [.ref h_now, .ref h_trial, .ref h_images, .ref h_imageThere, .ref h_teller, .ref h_ranks, .ref h_court, .ref h_sheets, .int 0, .int 0])), (h_now, .inr (5, [.ref n_weights, .ref n_kindOf, .ref n_light, .ref n_heavy, .ref n_seenBy, .ref n_seenCut, .ref n_seenFound, .int 2, .int 0, .int 0, .int 0, .int 0, .int 2, .int 0, .int 0]))] := hD
  refine hs_topi 0 (hw_2.trans (by first | rfl | decide +kernel | rfl)) ?_
  refine lv_if_eq (tgt := 22) hx hb dX7_finds_8 (by decide) (fun c_4 => ?_) (fun c_4 => absurd c_4 (by decide))
  refine lv_iconst (v := (-1)) hx hb dX7_finds_22 (by decide) ?_
  exact hs_iret hx hb hr hlocks hK hP hD hS () [] rfl (by decide) dX7_finds_23 (by first | rfl | decide | (simp only [hsb_0, hsb_1] at c_4; simp [A_finds, c_4]; done) | (simp [A_finds, c_4]; done))

set_option maxHeartbeats 4000000 in
set_option maxRecDepth 100000 in
theorem p_just (l : Launch) (D : va_G) (k : Nat → ClassId) (sz : Nat) (h : Nat) (h_now : Nat) (h_trial : Nat) (h_images : Nat) (h_imageThere : Nat) (h_teller : Nat) (h_ranks : Nat) (h_court : Nat) (h_sheets : Nat) (n_weights : Nat) (n_kindOf : Nat) (n_light : Nat) (n_heavy : Nat) (n_seenBy : Nat) (n_seenCut : Nat) (n_seenFound : Nat) (i : Int32)  : MI l yX7_just wsX7_just ({ frames := 2, cells := 0, slots := 0, locals := 43 }) D k [.ref h, .int i] [(h, .inr (6, [.ref h_now, .ref h_trial, .ref h_images, .ref h_imageThere, .ref h_teller, .ref h_ranks, .ref h_court, .ref h_sheets, .int 0, .int 0])), (h_now, .inr (5, [.ref n_weights, .ref n_kindOf, .ref n_light, .ref n_heavy, .ref n_seenBy, .ref n_seenCut, .ref n_seenFound, .int 2, .int 0, .int 0, .int 0, .int 0, .int 2, .int 0, .int 0]))] sz (fun (r : Int32) (u : Unit) => r = A_just i) (fun (u : Unit) => []) := by
  refine Met.ofW (cc := cX7_just) (maxL := 2) (ret := (some .int)) (by decide) rfl ?_
  intro p e s m args below meth c s₁ B hml hv
  obtain ⟨rfl, hsz, hP, hK, hD0, hN⟩ := hv
  have hx := B.exec
  have hb := B.bytes
  have hr := B.returns
  have hlocks := B.notSynchronized
  have hts := atoms_spec (ws := wsX7_just) B.pre
  have hown : s.vm.findClass RX7 = some m.cls := findClass_of_methodNamed B.named
  have hiX7 : ∀ w ∈ u_ws RX7 TX7 10, w ∈ wsX7_just := by decide +kernel
  have fl10 := hts (.fieldLink RX7 10 "HalfScales" "now" "LHalfScales$Thing;") (by decide +kernel)
  subst hsz
  have hD := hD0.self (sz := s.heap.size)
  generalize hAe : va_A [(h, .inr (6, [.ref h_now, .ref h_trial, .ref h_images, .ref h_imageThere, .ref h_teller, .ref h_ranks, .ref h_court, .ref h_sheets, .int 0, .int 0])), (h_now, .inr (5, [.ref n_weights, .ref n_kindOf, .ref n_light, .ref n_heavy, .ref n_seenBy, .ref n_seenCut, .ref n_seenFound, .int 2, .int 0, .int 0, .int 0, .int 0, .int 2, .int 0, .int 0]))] s.heap.size = A at hD ⊢
  have hA : ∀ q : Nat, s.heap.size ≤ q → A q := fun q h => by rw [← hAe]; exact Or.inr h
  have hS : va_S A s.heap s.heap [] := va_S.rf
  have hl := lv_entry ([.ref h, .int i]) (n := 2) (Nat.le_of_ble_eq_true rfl)
  rw [lg_entry_eq]
  generalize (lg_sl ([.ref h, .int i]) ++ List.replicate (2 - (lg_sl ([.ref h, .int i])).length) Slot.unset).toArray = ls at hl ⊢
  have hl : lv_has ls 2 [(0, .ref h), (1, .int i)] := hl
  have hP : va_P D vwCl [(h, .inr (6, [.ref h_now, .ref h_trial, .ref h_images, .ref h_imageThere, .ref h_teller, .ref h_ranks, .ref h_court, .ref h_sheets, .int 0, .int 0])), (h_now, .inr (5, [.ref n_weights, .ref n_kindOf, .ref n_light, .ref n_heavy, .ref n_seenBy, .ref n_seenCut, .ref n_seenFound, .int 2, .int 0, .int 0, .int 0, .int 0, .int 2, .int 0, .int 0]))] s.heap := hP
  refine lv_aload_n hx hb dX7_just_0 rfl (lv_at hl 0 rfl) ?_
  refine va_get (D := D) (ci := 6) (v := .ref h_now) (C := RX7) (T := TX7) (N := 10) hx hb hts hiX7 hown hK hP 0 rfl rfl 0 (by decide) fl10 (fun _ h9 => h9) rfl dX7_just_1 ?_
  refine lv_iload_n hx hb dX7_just_4 rfl (lv_at hl 1 rfl) ?_
  refine hs_ci (va_runV (As := [.int i]) (rest := []) ⟨hx, hb, hml, hown, hts⟩ (c_isCut0 l D k _ h_now n_weights n_kindOf n_light n_heavy n_seenBy n_seenCut n_seenFound i) (cwV 1 hts gX7_just_X6_isCut rfl rfl rfl (by decide +kernel) ⟨Nat.le_of_ble_eq_true rfl, Nat.le_of_ble_eq_true rfl⟩) (hs_preV hK hN (hs_subP (w := [(h_now, .inr (5, [.ref n_weights, .ref n_kindOf, .ref n_light, .ref n_heavy, .ref n_seenBy, .ref n_seenCut, .ref n_seenFound, .int 2, .int 0, .int 0, .int 0, .int 0, .int 2, .int 0, .int 0]))]) hP [1] rfl) (hD.sub (ws' := [(h_now, .inr (5, [.ref n_weights, .ref n_kindOf, .ref n_light, .ref n_heavy, .ref n_seenBy, .ref n_seenCut, .ref n_seenFound, .int 2, .int 0, .int 0, .int 0, .int 0, .int 2, .int 0, .int 0]))]) [1] (by decide) rfl) (ci := 5) (q0 := 0) rfl rfl) rfl rfl hl.1 rfl (lv_room (Nat.le_of_ble_eq_true rfl)) dX7_just_5 ⟨Nat.le_of_ble_eq_true rfl, Nat.le_of_ble_eq_true rfl⟩) hP hD hS hA [1] [0] [(h, .inr (6, [.ref h_now, .ref h_trial, .ref h_images, .ref h_imageThere, .ref h_teller, .ref h_ranks, .ref h_court, .ref h_sheets, .int 0, .int 0]))] rfl rfl (by decide) (by decide) [0, 1] (fun u_3 => [(h, .inr (6, [.ref h_now, .ref h_trial, .ref h_images, .ref h_imageThere, .ref h_teller, .ref h_ranks, .ref h_court, .ref h_sheets, .int 0, .int 0])), (h_now, .inr (5, [.ref n_weights, .ref n_kindOf, .ref n_light, .ref n_heavy, .ref n_seenBy, .ref n_seenCut, .ref n_seenFound, .int 2, .int 0, .int 0, .int 0, .int 0, .int 2, .int 0, .int 0]))]) (fun _ => rfl) (by decide) (fun r_1 u_3 H locs hw_2 hP hD hS => ?_)
  have hP : va_P D vwCl [(h, .inr (6, [.ref h_now, .ref h_trial, .ref h_images, .ref h_imageThere, .ref h_teller, .ref h_ranks, .ref h_court, .ref h_sheets, .int 0, .int 0])), (h_now, .inr (5, [.ref n_weights, .ref n_kindOf, .ref n_light, .ref n_heavy, .ref n_seenBy, .ref n_seenCut, .ref n_seenFound, .int 2, .int 0, .int 0, .int 0, .int 0, .int 2, .int 0, .int 0]))] H := hP
  have hD : va_D A [(h, .inr (6, [.ref h_now, .ref h_trial, .ref h_images, .ref h_imageThere, .ref h_teller, .ref h_ranks, .ref h_court, .ref h_sheets, .int 0, .int 0])), (h_now, .inr (5, [.ref n_weights, .ref n_kindOf, .ref n_light, .ref n_heavy, .ref n_seenBy, .ref n_seenCut, .ref n_seenFound, .int 2, .int 0, .int 0, .int 0, .int 0, .int 2, .int 0, .int 0]))] := hD
  refine hs_topi (hsb (hsin i 1 1)) hw_2 ?_
  refine lv_if_eq (tgt := 22) hx hb dX7_just_8 (by decide) (fun c_4 => ?_) (fun c_4 => ?_)
  · refine lv_iconst (v := (-1)) hx hb dX7_just_22 (by decide) ?_
    exact hs_iret hx hb hr hlocks hK hP hD hS () [] rfl (by decide) dX7_just_23 (by first | rfl | decide | (simp only [hsb_0, hsb_1] at c_4; simp [A_just, c_4]; done) | (simp [A_just, c_4]; done))
  · obtain rfl : i = 1 := hs_one (hs_nb c_4)
    refine lv_aload_n hx hb dX7_just_11 rfl (lv_at hl 0 rfl) ?_
    refine va_get (D := D) (ci := 6) (v := .ref h_now) (C := RX7) (T := TX7) (N := 10) hx hb hts hiX7 hown hK hP 0 rfl rfl 0 (by decide) fl10 (fun _ h9 => h9) rfl dX7_just_12 ?_
    refine lv_iload_n hx hb dX7_just_15 rfl (lv_at hl 1 rfl) ?_
    refine hs_ci (va_runV (As := [.int 1]) (rest := []) ⟨hx, hb, hml, hown, hts⟩ (c_justTo0 l D k _ h_now n_weights n_kindOf n_light n_heavy n_seenBy n_seenCut n_seenFound 1) (cwV 1 hts gX7_just_X6_justTo rfl rfl rfl (by decide +kernel) ⟨Nat.le_of_ble_eq_true rfl, Nat.le_of_ble_eq_true rfl⟩) (hs_preV hK hN (hs_subP (w := [(h_now, .inr (5, [.ref n_weights, .ref n_kindOf, .ref n_light, .ref n_heavy, .ref n_seenBy, .ref n_seenCut, .ref n_seenFound, .int 2, .int 0, .int 0, .int 0, .int 0, .int 2, .int 0, .int 0]))]) hP [1] rfl) (hD.sub (ws' := [(h_now, .inr (5, [.ref n_weights, .ref n_kindOf, .ref n_light, .ref n_heavy, .ref n_seenBy, .ref n_seenCut, .ref n_seenFound, .int 2, .int 0, .int 0, .int 0, .int 0, .int 2, .int 0, .int 0]))]) [1] (by decide) rfl) (ci := 5) (q0 := 0) rfl rfl) rfl rfl hl.1 rfl (lv_room (Nat.le_of_ble_eq_true rfl)) dX7_just_16 ⟨Nat.le_of_ble_eq_true rfl, Nat.le_of_ble_eq_true rfl⟩) hP hD hS hA [1] [0] [(h, .inr (6, [.ref h_now, .ref h_trial, .ref h_images, .ref h_imageThere, .ref h_teller, .ref h_ranks, .ref h_court, .ref h_sheets, .int 0, .int 0]))] rfl rfl (by decide) (by decide) [0, 1] (fun u_7 => [(h, .inr (6, [.ref h_now, .ref h_trial, .ref h_images, .ref h_imageThere, .ref h_teller, .ref h_ranks, .ref h_court, .ref h_sheets, .int 0, .int 0])), (h_now, .inr (5, [.ref n_weights, .ref n_kindOf, .ref n_light, .ref n_heavy, .ref n_seenBy, .ref n_seenCut, .ref n_seenFound, .int 2, .int 0, .int 0, .int 0, .int 0, .int 2, .int 0, .int 0]))]) (fun _ => rfl) (by decide) (fun r_5 u_7 H locs hw_6 hP hD hS => ?_)
    have hP : va_P D vwCl [(h, .inr (6, [.ref h_now, .ref h_trial, .ref h_images, .ref h_imageThere, .ref h_teller, .ref h_ranks, .ref h_court, .ref h_sheets, .int 0, .int 0])), (h_now, .inr (5, [.ref n_weights, .ref n_kindOf, .ref n_light, .ref n_heavy, .ref n_seenBy, .ref n_seenCut, .ref n_seenFound, .int 2, .int 0, .int 0, .int 0, .int 0, .int 2, .int 0, .int 0]))] H := hP
    have hD : va_D A [(h, .inr (6, [.ref h_now, .ref h_trial, .ref h_images, .ref h_imageThere, .ref h_teller, .ref h_ranks, .ref h_court, .ref h_sheets, .int 0, .int 0])), (h_now, .inr (5, [.ref n_weights, .ref n_kindOf, .ref n_light, .ref n_heavy, .ref n_seenBy, .ref n_seenCut, .ref n_seenFound, .int 2, .int 0, .int 0, .int 0, .int 0, .int 2, .int 0, .int 0]))] := hD
    refine hs_topi 0 (hw_6.trans (by first | rfl | decide +kernel | rfl)) ?_
    refine lv_goto (tgt := 23) hx hb dX7_just_19 (by decide) ?_
    exact hs_iret hx hb hr hlocks hK hP hD hS () [] rfl (by decide) dX7_just_23 (by first | rfl | decide | (simp only [hsb_0, hsb_1] at c_4; simp [A_just, c_4]; done) | (simp [A_just, c_4]; done))

set_option maxHeartbeats 4000000 in
set_option maxRecDepth 100000 in
theorem p_middle (l : Launch) (D : va_G) (k : Nat → ClassId) (sz : Nat) (h : Nat) (h_now : Nat) (h_trial : Nat) (h_images : Nat) (h_imageThere : Nat) (h_teller : Nat) (h_ranks : Nat) (h_court : Nat) (h_sheets : Nat) (n_weights : Nat) (n_kindOf : Nat) (n_light : Nat) (n_heavy : Nat) (n_seenBy : Nat) (n_seenCut : Nat) (n_seenFound : Nat) (what : Int32)  : MI l yX7_middle wsX7_middle ({ frames := 1, cells := 0, slots := 0, locals := 23 }) D k [.ref h, .int what] [(h, .inr (6, [.ref h_now, .ref h_trial, .ref h_images, .ref h_imageThere, .ref h_teller, .ref h_ranks, .ref h_court, .ref h_sheets, .int 0, .int 0])), (h_now, .inr (5, [.ref n_weights, .ref n_kindOf, .ref n_light, .ref n_heavy, .ref n_seenBy, .ref n_seenCut, .ref n_seenFound, .int 2, .int 0, .int 0, .int 0, .int 0, .int 2, .int 0, .int 0]))] sz (fun (r : Int32) (u : Unit) => r = A_middle what) (fun (u : Unit) => []) := by
  refine Met.ofW (cc := cX7_middle) (maxL := 6) (ret := (some .int)) (by decide) rfl ?_
  intro p e s m args below meth c s₁ B hml hv
  obtain ⟨rfl, hsz, hP, hK, hD0, hN⟩ := hv
  have hx := B.exec
  have hb := B.bytes
  have hr := B.returns
  have hlocks := B.notSynchronized
  have hts := atoms_spec (ws := wsX7_middle) B.pre
  have hown : s.vm.findClass RX7 = some m.cls := findClass_of_methodNamed B.named
  have hiX6 : ∀ w ∈ u_ws RX6 TX6 15, w ∈ wsX7_middle := by decide +kernel
  have hiX7 : ∀ w ∈ u_ws RX7 TX7 10, w ∈ wsX7_middle := by decide +kernel
  have fl10 := hts (.fieldLink RX7 10 "HalfScales" "now" "LHalfScales$Thing;") (by decide +kernel)
  have fl93 := hts (.fieldLink RX7 93 "HalfScales$Thing" "cellCount" "I") (by decide +kernel)
  subst hsz
  have hD := hD0.self (sz := s.heap.size)
  generalize hAe : va_A [(h, .inr (6, [.ref h_now, .ref h_trial, .ref h_images, .ref h_imageThere, .ref h_teller, .ref h_ranks, .ref h_court, .ref h_sheets, .int 0, .int 0])), (h_now, .inr (5, [.ref n_weights, .ref n_kindOf, .ref n_light, .ref n_heavy, .ref n_seenBy, .ref n_seenCut, .ref n_seenFound, .int 2, .int 0, .int 0, .int 0, .int 0, .int 2, .int 0, .int 0]))] s.heap.size = A at hD ⊢
  have hA : ∀ q : Nat, s.heap.size ≤ q → A q := fun q h => by rw [← hAe]; exact Or.inr h
  have hS : va_S A s.heap s.heap [] := va_S.rf
  have hl := lv_entry ([.ref h, .int what]) (n := 6) (Nat.le_of_ble_eq_true rfl)
  rw [lg_entry_eq]
  generalize (lg_sl ([.ref h, .int what]) ++ List.replicate (6 - (lg_sl ([.ref h, .int what])).length) Slot.unset).toArray = ls at hl ⊢
  have hl : lv_has ls 6 [(0, .ref h), (1, .int what)] := hl
  have hP : va_P D vwCl [(h, .inr (6, [.ref h_now, .ref h_trial, .ref h_images, .ref h_imageThere, .ref h_teller, .ref h_ranks, .ref h_court, .ref h_sheets, .int 0, .int 0])), (h_now, .inr (5, [.ref n_weights, .ref n_kindOf, .ref n_light, .ref n_heavy, .ref n_seenBy, .ref n_seenCut, .ref n_seenFound, .int 2, .int 0, .int 0, .int 0, .int 0, .int 2, .int 0, .int 0]))] s.heap := hP
  refine lv_iload_n hx hb dX7_middle_0 rfl (lv_at hl 1 rfl) ?_
  refine lv_iconst (v := 0) hx hb dX7_middle_1 (by decide) ?_
  refine lv_iconst (v := 1) hx hb dX7_middle_2 (by decide) ?_
  refine hs_pi (va_runS (As := [.int what, .int 0, .int 1]) (rest := []) ⟨hx, hb, hml, hown, hts⟩ (c_within l D k _ what 0 1) (va_cwS 3 hts gX7_middle_X7_within rfl rfl rfl (by decide +kernel) ⟨Nat.le_of_ble_eq_true rfl, Nat.le_of_ble_eq_true rfl⟩) (hs_preS hK hN (hs_subP (w := []) hP [] rfl) (hD.sub (ws' := []) [] (by decide) rfl)) rfl rfl hl.1 rfl (lv_room (Nat.le_of_ble_eq_true rfl)) dX7_middle_3 ⟨Nat.le_of_ble_eq_true rfl, Nat.le_of_ble_eq_true rfl⟩) hP hD hS hA (fun r_1 u_3 H locs hw_2 hP hS => ?_)
  refine hs_topi (hsb (hsin what 0 1)) hw_2 ?_
  refine lv_if_ne (tgt := 11) hx hb dX7_middle_6 (by decide) (fun c_4 => ?_) (fun c_4 => ?_)
  · rcases hs_v01 (hs_nb c_4) with rfl | rfl
    · refine lv_iconst (v := 1) hx hb dX7_middle_11 (by decide) ?_
      refine lv_istore_n (lv' := [(2, .int 1), (0, .ref h), (1, .int 0)]) hx hb dX7_middle_12 rfl hl (by decide) rfl (fun ls hl => ?_)
      refine lv_aload_n hx hb dX7_middle_13 rfl (lv_at hl 1 rfl) ?_
      refine va_get (D := D) (ci := 6) (v := .ref h_now) (C := RX7) (T := TX7) (N := 10) hx hb hts hiX7 hown hK hP 0 rfl rfl 0 (by decide) fl10 (fun _ h9 => h9) rfl dX7_middle_14 ?_
      refine lv_iconst (v := 1) hx hb dX7_middle_17 (by decide) ?_
      refine hs_ci (va_runV (As := [.int 1]) (rest := []) ⟨hx, hb, hml, hown, hts⟩ (c_justTo0 l D k _ h_now n_weights n_kindOf n_light n_heavy n_seenBy n_seenCut n_seenFound 1) (cwV 1 hts gX7_middle_X6_justTo rfl rfl rfl (by decide +kernel) ⟨Nat.le_of_ble_eq_true rfl, Nat.le_of_ble_eq_true rfl⟩) (hs_preV hK hN (hs_subP (w := [(h_now, .inr (5, [.ref n_weights, .ref n_kindOf, .ref n_light, .ref n_heavy, .ref n_seenBy, .ref n_seenCut, .ref n_seenFound, .int 2, .int 0, .int 0, .int 0, .int 0, .int 2, .int 0, .int 0]))]) hP [1] rfl) (hD.sub (ws' := [(h_now, .inr (5, [.ref n_weights, .ref n_kindOf, .ref n_light, .ref n_heavy, .ref n_seenBy, .ref n_seenCut, .ref n_seenFound, .int 2, .int 0, .int 0, .int 0, .int 0, .int 2, .int 0, .int 0]))]) [1] (by decide) rfl) (ci := 5) (q0 := 0) rfl rfl) rfl rfl hl.1 rfl (lv_room (Nat.le_of_ble_eq_true rfl)) dX7_middle_18 ⟨Nat.le_of_ble_eq_true rfl, Nat.le_of_ble_eq_true rfl⟩) hP hD hS hA [1] [0] [(h, .inr (6, [.ref h_now, .ref h_trial, .ref h_images, .ref h_imageThere, .ref h_teller, .ref h_ranks, .ref h_court, .ref h_sheets, .int 0, .int 0]))] rfl rfl (by decide) (by decide) [0, 1] (fun u_7 => [(h, .inr (6, [.ref h_now, .ref h_trial, .ref h_images, .ref h_imageThere, .ref h_teller, .ref h_ranks, .ref h_court, .ref h_sheets, .int 0, .int 0])), (h_now, .inr (5, [.ref n_weights, .ref n_kindOf, .ref n_light, .ref n_heavy, .ref n_seenBy, .ref n_seenCut, .ref n_seenFound, .int 2, .int 0, .int 0, .int 0, .int 0, .int 2, .int 0, .int 0]))]) (fun _ => rfl) (by decide) (fun r_5 u_7 H locs hw_6 hP hD hS => ?_)
      have hP : va_P D vwCl [(h, .inr (6, [.ref h_now, .ref h_trial, .ref h_images, .ref h_imageThere, .ref h_teller, .ref h_ranks, .ref h_court, .ref h_sheets, .int 0, .int 0])), (h_now, .inr (5, [.ref n_weights, .ref n_kindOf, .ref n_light, .ref n_heavy, .ref n_seenBy, .ref n_seenCut, .ref n_seenFound, .int 2, .int 0, .int 0, .int 0, .int 0, .int 2, .int 0, .int 0]))] H := hP
      have hD : va_D A [(h, .inr (6, [.ref h_now, .ref h_trial, .ref h_images, .ref h_imageThere, .ref h_teller, .ref h_ranks, .ref h_court, .ref h_sheets, .int 0, .int 0])), (h_now, .inr (5, [.ref n_weights, .ref n_kindOf, .ref n_light, .ref n_heavy, .ref n_seenBy, .ref n_seenCut, .ref n_seenFound, .int 2, .int 0, .int 0, .int 0, .int 0, .int 2, .int 0, .int 0]))] := hD
      refine hs_topi 0 (hw_6.trans (by first | rfl | decide +kernel | rfl)) ?_
      refine hs_pi (va_runS (As := [.int 0]) (rest := []) ⟨hx, hb, hml, hown, hts⟩ (c_bitCount l D k _ 0) (va_cwS 1 hts gX7_middle_J6_bitCount_0f7a4 rfl rfl rfl (by decide +kernel) ⟨Nat.le_of_ble_eq_true rfl, Nat.le_of_ble_eq_true rfl⟩) (hs_preS hK hN (hs_subP (w := []) hP [] rfl) (hD.sub (ws' := []) [] (by decide) rfl)) rfl rfl hl.1 rfl (lv_room (Nat.le_of_ble_eq_true rfl)) dX7_middle_21 ⟨Nat.le_of_ble_eq_true rfl, Nat.le_of_ble_eq_true rfl⟩) hP hD hS hA (fun r_8 u_10 H locs hw_9 hP hS => ?_)
      refine hs_topi 0 (hw_9.trans (by first | rfl | decide +kernel | rfl)) ?_
      refine lv_istore_n (lv' := [(3, .int 0), (2, .int 1), (0, .ref h), (1, .int 0)]) hx hb dX7_middle_24 rfl hl (by decide) rfl (fun ls hl => ?_)
      refine lv_iconst (v := 2) hx hb dX7_middle_25 (by decide) ?_
      refine lv_istore (lv' := [(4, .int 2), (3, .int 0), (2, .int 1), (0, .ref h), (1, .int 0)]) hx hb dX7_middle_26 hl (by decide) rfl (fun ls hl => ?_)
      refine lv_iload hx hb dX7_middle_28 (lv_at hl 0 rfl) ?_
      refine lv_aload_n hx hb dX7_middle_30 rfl (lv_at hl 3 rfl) ?_
      refine va_get (D := D) (ci := 6) (v := .ref h_now) (C := RX7) (T := TX7) (N := 10) hx hb hts hiX7 hown hK hP 0 rfl rfl 0 (by decide) fl10 (fun _ h9 => h9) rfl dX7_middle_31 ?_
      refine va_get (D := D) (ci := 5) (v := .int 2) (C := RX6) (T := TX6) (N := 15) hx hb hts hiX6 hown hK hP 1 rfl rfl 7 (by decide) fl93 (fun _ h9 => h9) rfl dX7_middle_34 ?_
      refine lv_icmp_ge (tgt := 72) hx hb dX7_middle_37 (by decide) (fun c_11 => ?_) (fun c_11 => absurd c_11 (by decide))
      refine lv_iload_n hx hb dX7_middle_72 rfl (lv_at hl 4 rfl) ?_
      refine lv_if_ne (tgt := 80) hx hb dX7_middle_73 (by decide) (fun c_12 => absurd c_12 (by decide)) (fun c_12 => ?_)
      refine lv_iload_n hx hb dX7_middle_76 rfl (lv_at hl 2 rfl) ?_
      refine lv_goto (tgt := 81) hx hb dX7_middle_77 (by decide) ?_
      exact hs_iret hx hb hr hlocks hK hP hD hS () [] rfl (by decide) dX7_middle_81 (by first | rfl | decide | (simp only [hsb_0, hsb_1] at c_4 c_11 c_12; simp [A_middle, c_4, c_11, c_12]; done) | (simp [A_middle, c_4, c_11, c_12]; done))
    · refine lv_iconst (v := 1) hx hb dX7_middle_11 (by decide) ?_
      refine lv_istore_n (lv' := [(2, .int 1), (0, .ref h), (1, .int 1)]) hx hb dX7_middle_12 rfl hl (by decide) rfl (fun ls hl => ?_)
      refine lv_aload_n hx hb dX7_middle_13 rfl (lv_at hl 1 rfl) ?_
      refine va_get (D := D) (ci := 6) (v := .ref h_now) (C := RX7) (T := TX7) (N := 10) hx hb hts hiX7 hown hK hP 0 rfl rfl 0 (by decide) fl10 (fun _ h9 => h9) rfl dX7_middle_14 ?_
      refine lv_iconst (v := 1) hx hb dX7_middle_17 (by decide) ?_
      refine hs_ci (va_runV (As := [.int 1]) (rest := []) ⟨hx, hb, hml, hown, hts⟩ (c_justTo0 l D k _ h_now n_weights n_kindOf n_light n_heavy n_seenBy n_seenCut n_seenFound 1) (cwV 1 hts gX7_middle_X6_justTo rfl rfl rfl (by decide +kernel) ⟨Nat.le_of_ble_eq_true rfl, Nat.le_of_ble_eq_true rfl⟩) (hs_preV hK hN (hs_subP (w := [(h_now, .inr (5, [.ref n_weights, .ref n_kindOf, .ref n_light, .ref n_heavy, .ref n_seenBy, .ref n_seenCut, .ref n_seenFound, .int 2, .int 0, .int 0, .int 0, .int 0, .int 2, .int 0, .int 0]))]) hP [1] rfl) (hD.sub (ws' := [(h_now, .inr (5, [.ref n_weights, .ref n_kindOf, .ref n_light, .ref n_heavy, .ref n_seenBy, .ref n_seenCut, .ref n_seenFound, .int 2, .int 0, .int 0, .int 0, .int 0, .int 2, .int 0, .int 0]))]) [1] (by decide) rfl) (ci := 5) (q0 := 0) rfl rfl) rfl rfl hl.1 rfl (lv_room (Nat.le_of_ble_eq_true rfl)) dX7_middle_18 ⟨Nat.le_of_ble_eq_true rfl, Nat.le_of_ble_eq_true rfl⟩) hP hD hS hA [1] [0] [(h, .inr (6, [.ref h_now, .ref h_trial, .ref h_images, .ref h_imageThere, .ref h_teller, .ref h_ranks, .ref h_court, .ref h_sheets, .int 0, .int 0]))] rfl rfl (by decide) (by decide) [0, 1] (fun u_15 => [(h, .inr (6, [.ref h_now, .ref h_trial, .ref h_images, .ref h_imageThere, .ref h_teller, .ref h_ranks, .ref h_court, .ref h_sheets, .int 0, .int 0])), (h_now, .inr (5, [.ref n_weights, .ref n_kindOf, .ref n_light, .ref n_heavy, .ref n_seenBy, .ref n_seenCut, .ref n_seenFound, .int 2, .int 0, .int 0, .int 0, .int 0, .int 2, .int 0, .int 0]))]) (fun _ => rfl) (by decide) (fun r_13 u_15 H locs hw_14 hP hD hS => ?_)
      have hP : va_P D vwCl [(h, .inr (6, [.ref h_now, .ref h_trial, .ref h_images, .ref h_imageThere, .ref h_teller, .ref h_ranks, .ref h_court, .ref h_sheets, .int 0, .int 0])), (h_now, .inr (5, [.ref n_weights, .ref n_kindOf, .ref n_light, .ref n_heavy, .ref n_seenBy, .ref n_seenCut, .ref n_seenFound, .int 2, .int 0, .int 0, .int 0, .int 0, .int 2, .int 0, .int 0]))] H := hP
      have hD : va_D A [(h, .inr (6, [.ref h_now, .ref h_trial, .ref h_images, .ref h_imageThere, .ref h_teller, .ref h_ranks, .ref h_court, .ref h_sheets, .int 0, .int 0])), (h_now, .inr (5, [.ref n_weights, .ref n_kindOf, .ref n_light, .ref n_heavy, .ref n_seenBy, .ref n_seenCut, .ref n_seenFound, .int 2, .int 0, .int 0, .int 0, .int 0, .int 2, .int 0, .int 0]))] := hD
      refine hs_topi 0 (hw_14.trans (by first | rfl | decide +kernel | rfl)) ?_
      refine hs_pi (va_runS (As := [.int 0]) (rest := []) ⟨hx, hb, hml, hown, hts⟩ (c_bitCount l D k _ 0) (va_cwS 1 hts gX7_middle_J6_bitCount_0f7a4 rfl rfl rfl (by decide +kernel) ⟨Nat.le_of_ble_eq_true rfl, Nat.le_of_ble_eq_true rfl⟩) (hs_preS hK hN (hs_subP (w := []) hP [] rfl) (hD.sub (ws' := []) [] (by decide) rfl)) rfl rfl hl.1 rfl (lv_room (Nat.le_of_ble_eq_true rfl)) dX7_middle_21 ⟨Nat.le_of_ble_eq_true rfl, Nat.le_of_ble_eq_true rfl⟩) hP hD hS hA (fun r_16 u_18 H locs hw_17 hP hS => ?_)
      refine hs_topi 0 (hw_17.trans (by first | rfl | decide +kernel | rfl)) ?_
      refine lv_istore_n (lv' := [(3, .int 0), (2, .int 1), (0, .ref h), (1, .int 1)]) hx hb dX7_middle_24 rfl hl (by decide) rfl (fun ls hl => ?_)
      refine lv_iconst (v := 2) hx hb dX7_middle_25 (by decide) ?_
      refine lv_istore (lv' := [(4, .int 2), (3, .int 0), (2, .int 1), (0, .ref h), (1, .int 1)]) hx hb dX7_middle_26 hl (by decide) rfl (fun ls hl => ?_)
      refine lv_iload hx hb dX7_middle_28 (lv_at hl 0 rfl) ?_
      refine lv_aload_n hx hb dX7_middle_30 rfl (lv_at hl 3 rfl) ?_
      refine va_get (D := D) (ci := 6) (v := .ref h_now) (C := RX7) (T := TX7) (N := 10) hx hb hts hiX7 hown hK hP 0 rfl rfl 0 (by decide) fl10 (fun _ h9 => h9) rfl dX7_middle_31 ?_
      refine va_get (D := D) (ci := 5) (v := .int 2) (C := RX6) (T := TX6) (N := 15) hx hb hts hiX6 hown hK hP 1 rfl rfl 7 (by decide) fl93 (fun _ h9 => h9) rfl dX7_middle_34 ?_
      refine lv_icmp_ge (tgt := 72) hx hb dX7_middle_37 (by decide) (fun c_19 => ?_) (fun c_19 => absurd c_19 (by decide))
      refine lv_iload_n hx hb dX7_middle_72 rfl (lv_at hl 4 rfl) ?_
      refine lv_if_ne (tgt := 80) hx hb dX7_middle_73 (by decide) (fun c_20 => ?_) (fun c_20 => absurd c_20 (by decide))
      refine lv_iload_n hx hb dX7_middle_80 rfl (lv_at hl 1 rfl) ?_
      exact hs_iret hx hb hr hlocks hK hP hD hS () [] rfl (by decide) dX7_middle_81 (by first | rfl | decide | (simp only [hsb_0, hsb_1] at c_4 c_19 c_20; simp [A_middle, c_4, c_19, c_20]; done) | (simp [A_middle, c_4, c_19, c_20]; done))
  · refine lv_iconst (v := (-1)) hx hb dX7_middle_9 (by decide) ?_
    exact hs_iret hx hb hr hlocks hK hP hD hS () [] rfl (by decide) dX7_middle_10 (by first | rfl | decide | (simp only [hsb_0, hsb_1] at c_4; simp [A_middle, c_4]; done) | (simp [A_middle, c_4]; done))

set_option maxHeartbeats 4000000 in
set_option maxRecDepth 100000 in
theorem p_honest (l : Launch) (D : va_G) (k : Nat → ClassId) (sz : Nat) (h : Nat) (h_now : Nat) (h_trial : Nat) (h_images : Nat) (h_imageThere : Nat) (h_teller : Nat) (h_ranks : Nat) (h_court : Nat) (h_sheets : Nat) (n_weights : Nat) (n_kindOf : Nat) (n_light : Nat) (n_heavy : Nat) (n_seenBy : Nat) (n_seenCut : Nat) (n_seenFound : Nat) (i : Int32)  : MI l yX7_honest wsX7_honest ({ frames := 2, cells := 0, slots := 0, locals := 43 }) D k [.ref h, .int i] [(h, .inr (6, [.ref h_now, .ref h_trial, .ref h_images, .ref h_imageThere, .ref h_teller, .ref h_ranks, .ref h_court, .ref h_sheets, .int 0, .int 0])), (h_now, .inr (5, [.ref n_weights, .ref n_kindOf, .ref n_light, .ref n_heavy, .ref n_seenBy, .ref n_seenCut, .ref n_seenFound, .int 2, .int 0, .int 0, .int 0, .int 0, .int 2, .int 0, .int 0]))] sz (fun (r : Int32) (u : Unit) => r = A_honest i) (fun (u : Unit) => []) := by
  refine Met.ofW (cc := cX7_honest) (maxL := 2) (ret := (some .int)) (by decide) rfl ?_
  intro p e s m args below meth c s₁ B hml hv
  obtain ⟨rfl, hsz, hP, hK, hD0, hN⟩ := hv
  have hx := B.exec
  have hb := B.bytes
  have hr := B.returns
  have hlocks := B.notSynchronized
  have hts := atoms_spec (ws := wsX7_honest) B.pre
  have hown : s.vm.findClass RX7 = some m.cls := findClass_of_methodNamed B.named
  have hiX7 : ∀ w ∈ u_ws RX7 TX7 10, w ∈ wsX7_honest := by decide +kernel
  have fl10 := hts (.fieldLink RX7 10 "HalfScales" "now" "LHalfScales$Thing;") (by decide +kernel)
  subst hsz
  have hD := hD0.self (sz := s.heap.size)
  generalize hAe : va_A [(h, .inr (6, [.ref h_now, .ref h_trial, .ref h_images, .ref h_imageThere, .ref h_teller, .ref h_ranks, .ref h_court, .ref h_sheets, .int 0, .int 0])), (h_now, .inr (5, [.ref n_weights, .ref n_kindOf, .ref n_light, .ref n_heavy, .ref n_seenBy, .ref n_seenCut, .ref n_seenFound, .int 2, .int 0, .int 0, .int 0, .int 0, .int 2, .int 0, .int 0]))] s.heap.size = A at hD ⊢
  have hA : ∀ q : Nat, s.heap.size ≤ q → A q := fun q h => by rw [← hAe]; exact Or.inr h
  have hS : va_S A s.heap s.heap [] := va_S.rf
  have hl := lv_entry ([.ref h, .int i]) (n := 2) (Nat.le_of_ble_eq_true rfl)
  rw [lg_entry_eq]
  generalize (lg_sl ([.ref h, .int i]) ++ List.replicate (2 - (lg_sl ([.ref h, .int i])).length) Slot.unset).toArray = ls at hl ⊢
  have hl : lv_has ls 2 [(0, .ref h), (1, .int i)] := hl
  have hP : va_P D vwCl [(h, .inr (6, [.ref h_now, .ref h_trial, .ref h_images, .ref h_imageThere, .ref h_teller, .ref h_ranks, .ref h_court, .ref h_sheets, .int 0, .int 0])), (h_now, .inr (5, [.ref n_weights, .ref n_kindOf, .ref n_light, .ref n_heavy, .ref n_seenBy, .ref n_seenCut, .ref n_seenFound, .int 2, .int 0, .int 0, .int 0, .int 0, .int 2, .int 0, .int 0]))] s.heap := hP
  refine lv_aload_n hx hb dX7_honest_0 rfl (lv_at hl 0 rfl) ?_
  refine va_get (D := D) (ci := 6) (v := .ref h_now) (C := RX7) (T := TX7) (N := 10) hx hb hts hiX7 hown hK hP 0 rfl rfl 0 (by decide) fl10 (fun _ h9 => h9) rfl dX7_honest_1 ?_
  refine lv_iload_n hx hb dX7_honest_4 rfl (lv_at hl 1 rfl) ?_
  refine hs_ci (va_runV (As := [.int i]) (rest := []) ⟨hx, hb, hml, hown, hts⟩ (c_isPerson0 l D k _ h_now n_weights n_kindOf n_light n_heavy n_seenBy n_seenCut n_seenFound i) (cwV 1 hts gX7_honest_X6_isPerson rfl rfl rfl (by decide +kernel) ⟨Nat.le_of_ble_eq_true rfl, Nat.le_of_ble_eq_true rfl⟩) (hs_preV hK hN (hs_subP (w := [(h_now, .inr (5, [.ref n_weights, .ref n_kindOf, .ref n_light, .ref n_heavy, .ref n_seenBy, .ref n_seenCut, .ref n_seenFound, .int 2, .int 0, .int 0, .int 0, .int 0, .int 2, .int 0, .int 0]))]) hP [1] rfl) (hD.sub (ws' := [(h_now, .inr (5, [.ref n_weights, .ref n_kindOf, .ref n_light, .ref n_heavy, .ref n_seenBy, .ref n_seenCut, .ref n_seenFound, .int 2, .int 0, .int 0, .int 0, .int 0, .int 2, .int 0, .int 0]))]) [1] (by decide) rfl) (ci := 5) (q0 := 0) rfl rfl) rfl rfl hl.1 rfl (lv_room (Nat.le_of_ble_eq_true rfl)) dX7_honest_5 ⟨Nat.le_of_ble_eq_true rfl, Nat.le_of_ble_eq_true rfl⟩) hP hD hS hA [1] [0] [(h, .inr (6, [.ref h_now, .ref h_trial, .ref h_images, .ref h_imageThere, .ref h_teller, .ref h_ranks, .ref h_court, .ref h_sheets, .int 0, .int 0]))] rfl rfl (by decide) (by decide) [0, 1] (fun u_3 => [(h, .inr (6, [.ref h_now, .ref h_trial, .ref h_images, .ref h_imageThere, .ref h_teller, .ref h_ranks, .ref h_court, .ref h_sheets, .int 0, .int 0])), (h_now, .inr (5, [.ref n_weights, .ref n_kindOf, .ref n_light, .ref n_heavy, .ref n_seenBy, .ref n_seenCut, .ref n_seenFound, .int 2, .int 0, .int 0, .int 0, .int 0, .int 2, .int 0, .int 0]))]) (fun _ => rfl) (by decide) (fun r_1 u_3 H locs hw_2 hP hD hS => ?_)
  have hP : va_P D vwCl [(h, .inr (6, [.ref h_now, .ref h_trial, .ref h_images, .ref h_imageThere, .ref h_teller, .ref h_ranks, .ref h_court, .ref h_sheets, .int 0, .int 0])), (h_now, .inr (5, [.ref n_weights, .ref n_kindOf, .ref n_light, .ref n_heavy, .ref n_seenBy, .ref n_seenCut, .ref n_seenFound, .int 2, .int 0, .int 0, .int 0, .int 0, .int 2, .int 0, .int 0]))] H := hP
  have hD : va_D A [(h, .inr (6, [.ref h_now, .ref h_trial, .ref h_images, .ref h_imageThere, .ref h_teller, .ref h_ranks, .ref h_court, .ref h_sheets, .int 0, .int 0])), (h_now, .inr (5, [.ref n_weights, .ref n_kindOf, .ref n_light, .ref n_heavy, .ref n_seenBy, .ref n_seenCut, .ref n_seenFound, .int 2, .int 0, .int 0, .int 0, .int 0, .int 2, .int 0, .int 0]))] := hD
  refine hs_topi 0 (hw_2.trans (by first | rfl | decide +kernel | rfl)) ?_
  refine lv_if_eq (tgt := 22) hx hb dX7_honest_8 (by decide) (fun c_4 => ?_) (fun c_4 => absurd c_4 (by decide))
  refine lv_iconst (v := (-1)) hx hb dX7_honest_22 (by decide) ?_
  exact hs_iret hx hb hr hlocks hK hP hD hS () [] rfl (by decide) dX7_honest_23 (by first | rfl | decide | (simp only [hsb_0, hsb_1] at c_4; simp [A_honest, c_4]; done) | (simp [A_honest, c_4]; done))

set_option maxHeartbeats 4000000 in
set_option maxRecDepth 100000 in
theorem c_areTwo0 (l : Launch) (D : va_G) (k : Nat → ClassId) (sz : Nat) (h : Nat) (h_now : Nat) (h_trial : Nat) (h_images : Nat) (h_imageThere : Nat) (h_teller : Nat) (h_ranks : Nat) (h_court : Nat) (h_sheets : Nat) (n_weights : Nat) (n_kindOf : Nat) (n_light : Nat) (n_heavy : Nat) (n_seenBy : Nat) (n_seenCut : Nat) (n_seenFound : Nat) (i : Int32) (v : Int32)  : MI l yX7_areTwo wsX7_areTwo ({ frames := 2, cells := 0, slots := 0, locals := 43 }) D k [.ref h, .int i, .int v] [(h, .inr (6, [.ref h_now, .ref h_trial, .ref h_images, .ref h_imageThere, .ref h_teller, .ref h_ranks, .ref h_court, .ref h_sheets, .int 0, .int 0])), (h_now, .inr (5, [.ref n_weights, .ref n_kindOf, .ref n_light, .ref n_heavy, .ref n_seenBy, .ref n_seenCut, .ref n_seenFound, .int 2, .int 0, .int 0, .int 0, .int 0, .int 2, .int 0, .int 0]))] sz (fun (r : Int32) (u : Unit) => r = 0) (fun (u : Unit) => [(h, .inr (6, [.ref h_now, .ref h_trial, .ref h_images, .ref h_imageThere, .ref h_teller, .ref h_ranks, .ref h_court, .ref h_sheets, .int 0, .int 0])), (h_now, .inr (5, [.ref n_weights, .ref n_kindOf, .ref n_light, .ref n_heavy, .ref n_seenBy, .ref n_seenCut, .ref n_seenFound, .int 2, .int 0, .int 0, .int 0, .int 0, .int 2, .int 0, .int 0]))]) := by
  refine Met.ofW (cc := cX7_areTwo) (maxL := 3) (ret := (some .boolean)) (by decide) rfl ?_
  intro p e s m args below meth c s₁ B hml hv
  obtain ⟨rfl, hsz, hP, hK, hD0, hN⟩ := hv
  have hx := B.exec
  have hb := B.bytes
  have hr := B.returns
  have hlocks := B.notSynchronized
  have hts := atoms_spec (ws := wsX7_areTwo) B.pre
  have hown : s.vm.findClass RX7 = some m.cls := findClass_of_methodNamed B.named
  have hiX7 : ∀ w ∈ u_ws RX7 TX7 10, w ∈ wsX7_areTwo := by decide +kernel
  have fl10 := hts (.fieldLink RX7 10 "HalfScales" "now" "LHalfScales$Thing;") (by decide +kernel)
  subst hsz
  have hD := hD0.self (sz := s.heap.size)
  generalize hAe : va_A [(h, .inr (6, [.ref h_now, .ref h_trial, .ref h_images, .ref h_imageThere, .ref h_teller, .ref h_ranks, .ref h_court, .ref h_sheets, .int 0, .int 0])), (h_now, .inr (5, [.ref n_weights, .ref n_kindOf, .ref n_light, .ref n_heavy, .ref n_seenBy, .ref n_seenCut, .ref n_seenFound, .int 2, .int 0, .int 0, .int 0, .int 0, .int 2, .int 0, .int 0]))] s.heap.size = A at hD ⊢
  have hA : ∀ q : Nat, s.heap.size ≤ q → A q := fun q h => by rw [← hAe]; exact Or.inr h
  have hS : va_S A s.heap s.heap [] := va_S.rf
  have hl := lv_entry ([.ref h, .int i, .int v]) (n := 3) (Nat.le_of_ble_eq_true rfl)
  rw [lg_entry_eq]
  generalize (lg_sl ([.ref h, .int i, .int v]) ++ List.replicate (3 - (lg_sl ([.ref h, .int i, .int v])).length) Slot.unset).toArray = ls at hl ⊢
  have hl : lv_has ls 3 [(0, .ref h), (1, .int i), (2, .int v)] := hl
  have hP : va_P D vwCl [(h, .inr (6, [.ref h_now, .ref h_trial, .ref h_images, .ref h_imageThere, .ref h_teller, .ref h_ranks, .ref h_court, .ref h_sheets, .int 0, .int 0])), (h_now, .inr (5, [.ref n_weights, .ref n_kindOf, .ref n_light, .ref n_heavy, .ref n_seenBy, .ref n_seenCut, .ref n_seenFound, .int 2, .int 0, .int 0, .int 0, .int 0, .int 2, .int 0, .int 0]))] s.heap := hP
  refine lv_aload_n hx hb dX7_areTwo_0 rfl (lv_at hl 0 rfl) ?_
  refine va_get (D := D) (ci := 6) (v := .ref h_now) (C := RX7) (T := TX7) (N := 10) hx hb hts hiX7 hown hK hP 0 rfl rfl 0 (by decide) fl10 (fun _ h9 => h9) rfl dX7_areTwo_1 ?_
  refine lv_iload_n hx hb dX7_areTwo_4 rfl (lv_at hl 1 rfl) ?_
  refine hs_ci (va_runV (As := [.int i]) (rest := []) ⟨hx, hb, hml, hown, hts⟩ (c_isPerson0 l D k _ h_now n_weights n_kindOf n_light n_heavy n_seenBy n_seenCut n_seenFound i) (cwV 1 hts gX7_areTwo_X6_isPerson rfl rfl rfl (by decide +kernel) ⟨Nat.le_of_ble_eq_true rfl, Nat.le_of_ble_eq_true rfl⟩) (hs_preV hK hN (hs_subP (w := [(h_now, .inr (5, [.ref n_weights, .ref n_kindOf, .ref n_light, .ref n_heavy, .ref n_seenBy, .ref n_seenCut, .ref n_seenFound, .int 2, .int 0, .int 0, .int 0, .int 0, .int 2, .int 0, .int 0]))]) hP [1] rfl) (hD.sub (ws' := [(h_now, .inr (5, [.ref n_weights, .ref n_kindOf, .ref n_light, .ref n_heavy, .ref n_seenBy, .ref n_seenCut, .ref n_seenFound, .int 2, .int 0, .int 0, .int 0, .int 0, .int 2, .int 0, .int 0]))]) [1] (by decide) rfl) (ci := 5) (q0 := 0) rfl rfl) rfl rfl hl.1 rfl (lv_room (Nat.le_of_ble_eq_true rfl)) dX7_areTwo_5 ⟨Nat.le_of_ble_eq_true rfl, Nat.le_of_ble_eq_true rfl⟩) hP hD hS hA [1] [0] [(h, .inr (6, [.ref h_now, .ref h_trial, .ref h_images, .ref h_imageThere, .ref h_teller, .ref h_ranks, .ref h_court, .ref h_sheets, .int 0, .int 0]))] rfl rfl (by decide) (by decide) [0, 1] (fun u_3 => [(h, .inr (6, [.ref h_now, .ref h_trial, .ref h_images, .ref h_imageThere, .ref h_teller, .ref h_ranks, .ref h_court, .ref h_sheets, .int 0, .int 0])), (h_now, .inr (5, [.ref n_weights, .ref n_kindOf, .ref n_light, .ref n_heavy, .ref n_seenBy, .ref n_seenCut, .ref n_seenFound, .int 2, .int 0, .int 0, .int 0, .int 0, .int 2, .int 0, .int 0]))]) (fun _ => rfl) (by decide) (fun r_1 u_3 H locs hw_2 hP hD hS => ?_)
  have hP : va_P D vwCl [(h, .inr (6, [.ref h_now, .ref h_trial, .ref h_images, .ref h_imageThere, .ref h_teller, .ref h_ranks, .ref h_court, .ref h_sheets, .int 0, .int 0])), (h_now, .inr (5, [.ref n_weights, .ref n_kindOf, .ref n_light, .ref n_heavy, .ref n_seenBy, .ref n_seenCut, .ref n_seenFound, .int 2, .int 0, .int 0, .int 0, .int 0, .int 2, .int 0, .int 0]))] H := hP
  have hD : va_D A [(h, .inr (6, [.ref h_now, .ref h_trial, .ref h_images, .ref h_imageThere, .ref h_teller, .ref h_ranks, .ref h_court, .ref h_sheets, .int 0, .int 0])), (h_now, .inr (5, [.ref n_weights, .ref n_kindOf, .ref n_light, .ref n_heavy, .ref n_seenBy, .ref n_seenCut, .ref n_seenFound, .int 2, .int 0, .int 0, .int 0, .int 0, .int 2, .int 0, .int 0]))] := hD
  refine hs_topi 0 (hw_2.trans (by first | rfl | decide +kernel | rfl)) ?_
  refine lv_if_eq (tgt := 31) hx hb dX7_areTwo_8 (by decide) (fun c_4 => ?_) (fun c_4 => absurd c_4 (by decide))
  refine lv_iconst (v := 0) hx hb dX7_areTwo_31 (by decide) ?_
  exact hs_zret hx hb hr hlocks hK hP hD hS () [0, 1] rfl (by decide) dX7_areTwo_32 rfl (rfl)

set_option maxHeartbeats 4000000 in
set_option maxRecDepth 100000 in
theorem p_chosen (l : Launch) (D : va_G) (k : Nat → ClassId) (sz : Nat) (h : Nat) (h_now : Nat) (h_trial : Nat) (h_images : Nat) (h_imageThere : Nat) (h_teller : Nat) (h_ranks : Nat) (h_court : Nat) (h_sheets : Nat) (n_weights : Nat) (n_kindOf : Nat) (n_light : Nat) (n_heavy : Nat) (n_seenBy : Nat) (n_seenCut : Nat) (n_seenFound : Nat) (i : Int32) (v : Int32) (what : Int32)  : MI l yX7_chosen wsX7_chosen ({ frames := 3, cells := 0, slots := 0, locals := 65 }) D k [.ref h, .int i, .int v, .int what] [(h, .inr (6, [.ref h_now, .ref h_trial, .ref h_images, .ref h_imageThere, .ref h_teller, .ref h_ranks, .ref h_court, .ref h_sheets, .int 0, .int 0])), (h_now, .inr (5, [.ref n_weights, .ref n_kindOf, .ref n_light, .ref n_heavy, .ref n_seenBy, .ref n_seenCut, .ref n_seenFound, .int 2, .int 0, .int 0, .int 0, .int 0, .int 2, .int 0, .int 0]))] sz (fun (r : Int32) (u : Unit) => r = A_chosen i v what) (fun (u : Unit) => []) := by
  refine Met.ofW (cc := cX7_chosen) (maxL := 6) (ret := (some .int)) (by decide) rfl ?_
  intro p e s m args below meth c s₁ B hml hv
  obtain ⟨rfl, hsz, hP, hK, hD0, hN⟩ := hv
  have hx := B.exec
  have hb := B.bytes
  have hr := B.returns
  have hlocks := B.notSynchronized
  have hts := atoms_spec (ws := wsX7_chosen) B.pre
  have hown : s.vm.findClass RX7 = some m.cls := findClass_of_methodNamed B.named
  subst hsz
  have hD := hD0.self (sz := s.heap.size)
  generalize hAe : va_A [(h, .inr (6, [.ref h_now, .ref h_trial, .ref h_images, .ref h_imageThere, .ref h_teller, .ref h_ranks, .ref h_court, .ref h_sheets, .int 0, .int 0])), (h_now, .inr (5, [.ref n_weights, .ref n_kindOf, .ref n_light, .ref n_heavy, .ref n_seenBy, .ref n_seenCut, .ref n_seenFound, .int 2, .int 0, .int 0, .int 0, .int 0, .int 2, .int 0, .int 0]))] s.heap.size = A at hD ⊢
  have hA : ∀ q : Nat, s.heap.size ≤ q → A q := fun q h => by rw [← hAe]; exact Or.inr h
  have hS : va_S A s.heap s.heap [] := va_S.rf
  have hl := lv_entry ([.ref h, .int i, .int v, .int what]) (n := 6) (Nat.le_of_ble_eq_true rfl)
  rw [lg_entry_eq]
  generalize (lg_sl ([.ref h, .int i, .int v, .int what]) ++ List.replicate (6 - (lg_sl ([.ref h, .int i, .int v, .int what])).length) Slot.unset).toArray = ls at hl ⊢
  have hl : lv_has ls 6 [(0, .ref h), (1, .int i), (2, .int v), (3, .int what)] := hl
  have hP : va_P D vwCl [(h, .inr (6, [.ref h_now, .ref h_trial, .ref h_images, .ref h_imageThere, .ref h_teller, .ref h_ranks, .ref h_court, .ref h_sheets, .int 0, .int 0])), (h_now, .inr (5, [.ref n_weights, .ref n_kindOf, .ref n_light, .ref n_heavy, .ref n_seenBy, .ref n_seenCut, .ref n_seenFound, .int 2, .int 0, .int 0, .int 0, .int 0, .int 2, .int 0, .int 0]))] s.heap := hP
  refine lv_aload_n hx hb dX7_chosen_0 rfl (lv_at hl 0 rfl) ?_
  refine lv_iload_n hx hb dX7_chosen_1 rfl (lv_at hl 1 rfl) ?_
  refine lv_iload_n hx hb dX7_chosen_2 rfl (lv_at hl 2 rfl) ?_
  refine hs_ci (va_runV (As := [.int i, .int v]) (rest := []) ⟨hx, hb, hml, hown, hts⟩ (c_areTwo0 l D k _ h h_now h_trial h_images h_imageThere h_teller h_ranks h_court h_sheets n_weights n_kindOf n_light n_heavy n_seenBy n_seenCut n_seenFound i v) (cwV 2 hts gX7_chosen_X7_areTwo rfl rfl rfl (by decide +kernel) ⟨Nat.le_of_ble_eq_true rfl, Nat.le_of_ble_eq_true rfl⟩) (hs_preV hK hN (hs_subP (w := [(h, .inr (6, [.ref h_now, .ref h_trial, .ref h_images, .ref h_imageThere, .ref h_teller, .ref h_ranks, .ref h_court, .ref h_sheets, .int 0, .int 0])), (h_now, .inr (5, [.ref n_weights, .ref n_kindOf, .ref n_light, .ref n_heavy, .ref n_seenBy, .ref n_seenCut, .ref n_seenFound, .int 2, .int 0, .int 0, .int 0, .int 0, .int 2, .int 0, .int 0]))]) hP [0, 1] rfl) (hD.sub (ws' := [(h, .inr (6, [.ref h_now, .ref h_trial, .ref h_images, .ref h_imageThere, .ref h_teller, .ref h_ranks, .ref h_court, .ref h_sheets, .int 0, .int 0])), (h_now, .inr (5, [.ref n_weights, .ref n_kindOf, .ref n_light, .ref n_heavy, .ref n_seenBy, .ref n_seenCut, .ref n_seenFound, .int 2, .int 0, .int 0, .int 0, .int 0, .int 2, .int 0, .int 0]))]) [0, 1] (by decide) rfl) (ci := 6) (q0 := 0) rfl rfl) rfl rfl hl.1 rfl (lv_room (Nat.le_of_ble_eq_true rfl)) dX7_chosen_3 ⟨Nat.le_of_ble_eq_true rfl, Nat.le_of_ble_eq_true rfl⟩) hP hD hS hA [0, 1] [] [] rfl rfl (by decide) (by decide) [0, 1] (fun u_3 => [(h, .inr (6, [.ref h_now, .ref h_trial, .ref h_images, .ref h_imageThere, .ref h_teller, .ref h_ranks, .ref h_court, .ref h_sheets, .int 0, .int 0])), (h_now, .inr (5, [.ref n_weights, .ref n_kindOf, .ref n_light, .ref n_heavy, .ref n_seenBy, .ref n_seenCut, .ref n_seenFound, .int 2, .int 0, .int 0, .int 0, .int 0, .int 2, .int 0, .int 0]))]) (fun _ => rfl) (by decide) (fun r_1 u_3 H locs hw_2 hP hD hS => ?_)
  have hP : va_P D vwCl [(h, .inr (6, [.ref h_now, .ref h_trial, .ref h_images, .ref h_imageThere, .ref h_teller, .ref h_ranks, .ref h_court, .ref h_sheets, .int 0, .int 0])), (h_now, .inr (5, [.ref n_weights, .ref n_kindOf, .ref n_light, .ref n_heavy, .ref n_seenBy, .ref n_seenCut, .ref n_seenFound, .int 2, .int 0, .int 0, .int 0, .int 0, .int 2, .int 0, .int 0]))] H := hP
  have hD : va_D A [(h, .inr (6, [.ref h_now, .ref h_trial, .ref h_images, .ref h_imageThere, .ref h_teller, .ref h_ranks, .ref h_court, .ref h_sheets, .int 0, .int 0])), (h_now, .inr (5, [.ref n_weights, .ref n_kindOf, .ref n_light, .ref n_heavy, .ref n_seenBy, .ref n_seenCut, .ref n_seenFound, .int 2, .int 0, .int 0, .int 0, .int 0, .int 2, .int 0, .int 0]))] := hD
  refine hs_topi 0 (hw_2.trans (by first | rfl | decide +kernel | rfl)) ?_
  refine lv_if_eq (tgt := 18) hx hb dX7_chosen_6 (by decide) (fun c_4 => ?_) (fun c_4 => absurd c_4 (by decide))
  refine lv_iconst (v := (-1)) hx hb dX7_chosen_18 (by decide) ?_
  exact hs_iret hx hb hr hlocks hK hP hD hS () [] rfl (by decide) dX7_chosen_19 (by first | rfl | decide | (simp only [hsb_0, hsb_1] at c_4; simp [A_chosen, c_4]; done) | (simp [A_chosen, c_4]; done))

set_option maxHeartbeats 4000000 in
set_option maxRecDepth 100000 in
theorem p_sly (l : Launch) (D : va_G) (k : Nat → ClassId) (sz : Nat) (h : Nat) (h_now : Nat) (h_trial : Nat) (h_images : Nat) (h_imageThere : Nat) (h_teller : Nat) (h_ranks : Nat) (h_court : Nat) (h_sheets : Nat) (n_weights : Nat) (n_kindOf : Nat) (n_light : Nat) (n_heavy : Nat) (n_seenBy : Nat) (n_seenCut : Nat) (n_seenFound : Nat) (i : Int32) (v : Int32) (what : Int32)  : MI l yX7_sly wsX7_sly ({ frames := 3, cells := 0, slots := 0, locals := 65 }) D k [.ref h, .int i, .int v, .int what] [(h, .inr (6, [.ref h_now, .ref h_trial, .ref h_images, .ref h_imageThere, .ref h_teller, .ref h_ranks, .ref h_court, .ref h_sheets, .int 0, .int 0])), (h_now, .inr (5, [.ref n_weights, .ref n_kindOf, .ref n_light, .ref n_heavy, .ref n_seenBy, .ref n_seenCut, .ref n_seenFound, .int 2, .int 0, .int 0, .int 0, .int 0, .int 2, .int 0, .int 0]))] sz (fun (r : Int32) (u : Unit) => r = A_sly i v what) (fun (u : Unit) => []) := by
  refine Met.ofW (cc := cX7_sly) (maxL := 5) (ret := (some .int)) (by decide) rfl ?_
  intro p e s m args below meth c s₁ B hml hv
  obtain ⟨rfl, hsz, hP, hK, hD0, hN⟩ := hv
  have hx := B.exec
  have hb := B.bytes
  have hr := B.returns
  have hlocks := B.notSynchronized
  have hts := atoms_spec (ws := wsX7_sly) B.pre
  have hown : s.vm.findClass RX7 = some m.cls := findClass_of_methodNamed B.named
  subst hsz
  have hD := hD0.self (sz := s.heap.size)
  generalize hAe : va_A [(h, .inr (6, [.ref h_now, .ref h_trial, .ref h_images, .ref h_imageThere, .ref h_teller, .ref h_ranks, .ref h_court, .ref h_sheets, .int 0, .int 0])), (h_now, .inr (5, [.ref n_weights, .ref n_kindOf, .ref n_light, .ref n_heavy, .ref n_seenBy, .ref n_seenCut, .ref n_seenFound, .int 2, .int 0, .int 0, .int 0, .int 0, .int 2, .int 0, .int 0]))] s.heap.size = A at hD ⊢
  have hA : ∀ q : Nat, s.heap.size ≤ q → A q := fun q h => by rw [← hAe]; exact Or.inr h
  have hS : va_S A s.heap s.heap [] := va_S.rf
  have hl := lv_entry ([.ref h, .int i, .int v, .int what]) (n := 5) (Nat.le_of_ble_eq_true rfl)
  rw [lg_entry_eq]
  generalize (lg_sl ([.ref h, .int i, .int v, .int what]) ++ List.replicate (5 - (lg_sl ([.ref h, .int i, .int v, .int what])).length) Slot.unset).toArray = ls at hl ⊢
  have hl : lv_has ls 5 [(0, .ref h), (1, .int i), (2, .int v), (3, .int what)] := hl
  have hP : va_P D vwCl [(h, .inr (6, [.ref h_now, .ref h_trial, .ref h_images, .ref h_imageThere, .ref h_teller, .ref h_ranks, .ref h_court, .ref h_sheets, .int 0, .int 0])), (h_now, .inr (5, [.ref n_weights, .ref n_kindOf, .ref n_light, .ref n_heavy, .ref n_seenBy, .ref n_seenCut, .ref n_seenFound, .int 2, .int 0, .int 0, .int 0, .int 0, .int 2, .int 0, .int 0]))] s.heap := hP
  refine lv_aload_n hx hb dX7_sly_0 rfl (lv_at hl 0 rfl) ?_
  refine lv_iload_n hx hb dX7_sly_1 rfl (lv_at hl 1 rfl) ?_
  refine lv_iload_n hx hb dX7_sly_2 rfl (lv_at hl 2 rfl) ?_
  refine hs_ci (va_runV (As := [.int i, .int v]) (rest := []) ⟨hx, hb, hml, hown, hts⟩ (c_areTwo0 l D k _ h h_now h_trial h_images h_imageThere h_teller h_ranks h_court h_sheets n_weights n_kindOf n_light n_heavy n_seenBy n_seenCut n_seenFound i v) (cwV 2 hts gX7_sly_X7_areTwo rfl rfl rfl (by decide +kernel) ⟨Nat.le_of_ble_eq_true rfl, Nat.le_of_ble_eq_true rfl⟩) (hs_preV hK hN (hs_subP (w := [(h, .inr (6, [.ref h_now, .ref h_trial, .ref h_images, .ref h_imageThere, .ref h_teller, .ref h_ranks, .ref h_court, .ref h_sheets, .int 0, .int 0])), (h_now, .inr (5, [.ref n_weights, .ref n_kindOf, .ref n_light, .ref n_heavy, .ref n_seenBy, .ref n_seenCut, .ref n_seenFound, .int 2, .int 0, .int 0, .int 0, .int 0, .int 2, .int 0, .int 0]))]) hP [0, 1] rfl) (hD.sub (ws' := [(h, .inr (6, [.ref h_now, .ref h_trial, .ref h_images, .ref h_imageThere, .ref h_teller, .ref h_ranks, .ref h_court, .ref h_sheets, .int 0, .int 0])), (h_now, .inr (5, [.ref n_weights, .ref n_kindOf, .ref n_light, .ref n_heavy, .ref n_seenBy, .ref n_seenCut, .ref n_seenFound, .int 2, .int 0, .int 0, .int 0, .int 0, .int 2, .int 0, .int 0]))]) [0, 1] (by decide) rfl) (ci := 6) (q0 := 0) rfl rfl) rfl rfl hl.1 rfl (lv_room (Nat.le_of_ble_eq_true rfl)) dX7_sly_3 ⟨Nat.le_of_ble_eq_true rfl, Nat.le_of_ble_eq_true rfl⟩) hP hD hS hA [0, 1] [] [] rfl rfl (by decide) (by decide) [0, 1] (fun u_3 => [(h, .inr (6, [.ref h_now, .ref h_trial, .ref h_images, .ref h_imageThere, .ref h_teller, .ref h_ranks, .ref h_court, .ref h_sheets, .int 0, .int 0])), (h_now, .inr (5, [.ref n_weights, .ref n_kindOf, .ref n_light, .ref n_heavy, .ref n_seenBy, .ref n_seenCut, .ref n_seenFound, .int 2, .int 0, .int 0, .int 0, .int 0, .int 2, .int 0, .int 0]))]) (fun _ => rfl) (by decide) (fun r_1 u_3 H locs hw_2 hP hD hS => ?_)
  have hP : va_P D vwCl [(h, .inr (6, [.ref h_now, .ref h_trial, .ref h_images, .ref h_imageThere, .ref h_teller, .ref h_ranks, .ref h_court, .ref h_sheets, .int 0, .int 0])), (h_now, .inr (5, [.ref n_weights, .ref n_kindOf, .ref n_light, .ref n_heavy, .ref n_seenBy, .ref n_seenCut, .ref n_seenFound, .int 2, .int 0, .int 0, .int 0, .int 0, .int 2, .int 0, .int 0]))] H := hP
  have hD : va_D A [(h, .inr (6, [.ref h_now, .ref h_trial, .ref h_images, .ref h_imageThere, .ref h_teller, .ref h_ranks, .ref h_court, .ref h_sheets, .int 0, .int 0])), (h_now, .inr (5, [.ref n_weights, .ref n_kindOf, .ref n_light, .ref n_heavy, .ref n_seenBy, .ref n_seenCut, .ref n_seenFound, .int 2, .int 0, .int 0, .int 0, .int 0, .int 2, .int 0, .int 0]))] := hD
  refine hs_topi 0 (hw_2.trans (by first | rfl | decide +kernel | rfl)) ?_
  refine lv_if_eq (tgt := 18) hx hb dX7_sly_6 (by decide) (fun c_4 => ?_) (fun c_4 => absurd c_4 (by decide))
  refine lv_iconst (v := (-1)) hx hb dX7_sly_18 (by decide) ?_
  exact hs_iret hx hb hr hlocks hK hP hD hS () [] rfl (by decide) dX7_sly_19 (by first | rfl | decide | (simp only [hsb_0, hsb_1] at c_4; simp [A_sly, c_4]; done) | (simp [A_sly, c_4]; done))
