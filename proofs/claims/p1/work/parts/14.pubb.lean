set_option maxHeartbeats 4000000 in
set_option maxRecDepth 100000 in
theorem p_halves (l : Launch) (D : va_G) (k : Nat → ClassId) (sz : Nat) (h : Nat) (h_now : Nat) (h_trial : Nat) (h_images : Nat) (h_imageThere : Nat) (h_teller : Nat) (h_ranks : Nat) (h_court : Nat) (h_sheets : Nat) (n_weights : Nat) (n_kindOf : Nat) (n_light : Nat) (n_heavy : Nat) (n_seenBy : Nat) (n_seenCut : Nat) (n_seenFound : Nat) (a : Int32) (what : Int32)  : MI l yX7_halves wsX7_halves ({ frames := 3, cells := 0, slots := 0, locals := 67 }) D k [.ref h, .int a, .int what] [(h, .inr (6, [.ref h_now, .ref h_trial, .ref h_images, .ref h_imageThere, .ref h_teller, .ref h_ranks, .ref h_court, .ref h_sheets, .int 0, .int 0])), (h_now, .inr (5, [.ref n_weights, .ref n_kindOf, .ref n_light, .ref n_heavy, .ref n_seenBy, .ref n_seenCut, .ref n_seenFound, .int 2, .int 0, .int 0, .int 0, .int 0, .int 2, .int 0, .int 0]))] sz (fun (r : Int32) (u : Unit) => r = A_halves a what) (fun (u : Unit) => []) := by
  refine Met.ofW (cc := cX7_halves) (maxL := 4) (ret := (some .int)) (by decide) rfl ?_
  intro p e s m args below meth c s₁ B hml hv
  obtain ⟨rfl, hsz, hP, hK, hD0, hN⟩ := hv
  have hx := B.exec
  have hb := B.bytes
  have hr := B.returns
  have hlocks := B.notSynchronized
  have hts := atoms_spec (ws := wsX7_halves) B.pre
  have hown : s.vm.findClass RX7 = some m.cls := findClass_of_methodNamed B.named
  have hiX7 : ∀ w ∈ u_ws RX7 TX7 10, w ∈ wsX7_halves := by decide +kernel
  have fl10 := hts (.fieldLink RX7 10 "HalfScales" "now" "LHalfScales$Thing;") (by decide +kernel)
  subst hsz
  have hD := hD0.self (sz := s.heap.size)
  generalize hAe : va_A [(h, .inr (6, [.ref h_now, .ref h_trial, .ref h_images, .ref h_imageThere, .ref h_teller, .ref h_ranks, .ref h_court, .ref h_sheets, .int 0, .int 0])), (h_now, .inr (5, [.ref n_weights, .ref n_kindOf, .ref n_light, .ref n_heavy, .ref n_seenBy, .ref n_seenCut, .ref n_seenFound, .int 2, .int 0, .int 0, .int 0, .int 0, .int 2, .int 0, .int 0]))] s.heap.size = A at hD ⊢
  have hA : ∀ q : Nat, s.heap.size ≤ q → A q := fun q h => by rw [← hAe]; exact Or.inr h
  have hS : va_S A s.heap s.heap [] := va_S.rf
  have hl := lv_entry ([.ref h, .int a, .int what]) (n := 4) (Nat.le_of_ble_eq_true rfl)
  rw [lg_entry_eq]
  generalize (lg_sl ([.ref h, .int a, .int what]) ++ List.replicate (4 - (lg_sl ([.ref h, .int a, .int what])).length) Slot.unset).toArray = ls at hl ⊢
  have hl : lv_has ls 4 [(0, .ref h), (1, .int a), (2, .int what)] := hl
  have hP : va_P D vwCl [(h, .inr (6, [.ref h_now, .ref h_trial, .ref h_images, .ref h_imageThere, .ref h_teller, .ref h_ranks, .ref h_court, .ref h_sheets, .int 0, .int 0])), (h_now, .inr (5, [.ref n_weights, .ref n_kindOf, .ref n_light, .ref n_heavy, .ref n_seenBy, .ref n_seenCut, .ref n_seenFound, .int 2, .int 0, .int 0, .int 0, .int 0, .int 2, .int 0, .int 0]))] s.heap := hP
  refine lv_iload_n hx hb dX7_halves_0 rfl (lv_at hl 1 rfl) ?_
  refine lv_iconst (v := 0) hx hb dX7_halves_1 (by decide) ?_
  refine lv_aload_n hx hb dX7_halves_2 rfl (lv_at hl 0 rfl) ?_
  refine va_get (D := D) (ci := 6) (v := .ref h_now) (C := RX7) (T := TX7) (N := 10) hx hb hts hiX7 hown hK hP 0 rfl rfl 0 (by decide) fl10 (fun _ h9 => h9) rfl dX7_halves_3 ?_
  refine hs_ci (va_runV (As := []) (rest := [.int 0, .int a]) ⟨hx, hb, hml, hown, hts⟩ (c_allPeople0 l D k _ h_now n_weights n_kindOf n_light n_heavy n_seenBy n_seenCut n_seenFound) (cwV 0 hts gX7_halves_X6_allPeople rfl rfl rfl (by decide +kernel) ⟨Nat.le_of_ble_eq_true rfl, Nat.le_of_ble_eq_true rfl⟩) (hs_preV hK hN (hs_subP (w := [(h_now, .inr (5, [.ref n_weights, .ref n_kindOf, .ref n_light, .ref n_heavy, .ref n_seenBy, .ref n_seenCut, .ref n_seenFound, .int 2, .int 0, .int 0, .int 0, .int 0, .int 2, .int 0, .int 0]))]) hP [1] rfl) (hD.sub (ws' := [(h_now, .inr (5, [.ref n_weights, .ref n_kindOf, .ref n_light, .ref n_heavy, .ref n_seenBy, .ref n_seenCut, .ref n_seenFound, .int 2, .int 0, .int 0, .int 0, .int 0, .int 2, .int 0, .int 0]))]) [1] (by decide) rfl) (ci := 5) (q0 := 0) rfl rfl) rfl rfl hl.1 rfl (lv_room (Nat.le_of_ble_eq_true rfl)) dX7_halves_6 ⟨Nat.le_of_ble_eq_true rfl, Nat.le_of_ble_eq_true rfl⟩) hP hD hS hA [1] [0] [(h, .inr (6, [.ref h_now, .ref h_trial, .ref h_images, .ref h_imageThere, .ref h_teller, .ref h_ranks, .ref h_court, .ref h_sheets, .int 0, .int 0]))] rfl rfl (by decide) (by decide) [0, 1] (fun u_3 => [(h, .inr (6, [.ref h_now, .ref h_trial, .ref h_images, .ref h_imageThere, .ref h_teller, .ref h_ranks, .ref h_court, .ref h_sheets, .int 0, .int 0])), (h_now, .inr (5, [.ref n_weights, .ref n_kindOf, .ref n_light, .ref n_heavy, .ref n_seenBy, .ref n_seenCut, .ref n_seenFound, .int 2, .int 0, .int 0, .int 0, .int 0, .int 2, .int 0, .int 0]))]) (fun _ => rfl) (by decide) (fun r_1 u_3 H locs hw_2 hP hD hS => ?_)
  have hP : va_P D vwCl [(h, .inr (6, [.ref h_now, .ref h_trial, .ref h_images, .ref h_imageThere, .ref h_teller, .ref h_ranks, .ref h_court, .ref h_sheets, .int 0, .int 0])), (h_now, .inr (5, [.ref n_weights, .ref n_kindOf, .ref n_light, .ref n_heavy, .ref n_seenBy, .ref n_seenCut, .ref n_seenFound, .int 2, .int 0, .int 0, .int 0, .int 0, .int 2, .int 0, .int 0]))] H := hP
  have hD : va_D A [(h, .inr (6, [.ref h_now, .ref h_trial, .ref h_images, .ref h_imageThere, .ref h_teller, .ref h_ranks, .ref h_court, .ref h_sheets, .int 0, .int 0])), (h_now, .inr (5, [.ref n_weights, .ref n_kindOf, .ref n_light, .ref n_heavy, .ref n_seenBy, .ref n_seenCut, .ref n_seenFound, .int 2, .int 0, .int 0, .int 0, .int 0, .int 2, .int 0, .int 0]))] := hD
  refine hs_topi 0 (hw_2.trans (by first | rfl | decide +kernel | rfl)) ?_
  refine hs_pi (va_runS (As := [.int a, .int 0, .int 0]) (rest := []) ⟨hx, hb, hml, hown, hts⟩ (c_within l D k _ a 0 0) (va_cwS 3 hts gX7_halves_X7_within rfl rfl rfl (by decide +kernel) ⟨Nat.le_of_ble_eq_true rfl, Nat.le_of_ble_eq_true rfl⟩) (hs_preS hK hN (hs_subP (w := []) hP [] rfl) (hD.sub (ws' := []) [] (by decide) rfl)) rfl rfl hl.1 rfl (lv_room (Nat.le_of_ble_eq_true rfl)) dX7_halves_9 ⟨Nat.le_of_ble_eq_true rfl, Nat.le_of_ble_eq_true rfl⟩) hP hD hS hA (fun r_4 u_6 H locs hw_5 hP hS => ?_)
  refine hs_topi (hsb (hsin a 0 0)) hw_5 ?_
  refine lv_if_eq (tgt := 24) hx hb dX7_halves_12 (by decide) (fun c_7 => ?_) (fun c_7 => ?_)
  · refine lv_iconst (v := (-1)) hx hb dX7_halves_24 (by decide) ?_
    exact hs_iret hx hb hr hlocks hK hP hD hS () [] rfl (by decide) dX7_halves_25 (by first | rfl | decide | (simp only [hsb_0, hsb_1] at c_7; simp [A_halves, c_7]; done) | (simp [A_halves, c_7]; done))
  · obtain rfl : a = 0 := hs_one (hs_nb c_7)
    refine lv_iload_n hx hb dX7_halves_15 rfl (lv_at hl 2 rfl) ?_
    refine lv_iconst (v := 0) hx hb dX7_halves_16 (by decide) ?_
    refine lv_iconst (v := 1) hx hb dX7_halves_17 (by decide) ?_
    refine hs_pi (va_runS (As := [.int what, .int 0, .int 1]) (rest := []) ⟨hx, hb, hml, hown, hts⟩ (c_within l D k _ what 0 1) (va_cwS 3 hts gX7_halves_X7_within rfl rfl rfl (by decide +kernel) ⟨Nat.le_of_ble_eq_true rfl, Nat.le_of_ble_eq_true rfl⟩) (hs_preS hK hN (hs_subP (w := []) hP [] rfl) (hD.sub (ws' := []) [] (by decide) rfl)) rfl rfl hl.1 rfl (lv_room (Nat.le_of_ble_eq_true rfl)) dX7_halves_18 ⟨Nat.le_of_ble_eq_true rfl, Nat.le_of_ble_eq_true rfl⟩) hP hD hS hA (fun r_8 u_10 H locs hw_9 hP hS => ?_)
    refine hs_topi (hsb (hsin what 0 1)) hw_9 ?_
    refine lv_if_ne (tgt := 26) hx hb dX7_halves_21 (by decide) (fun c_11 => ?_) (fun c_11 => ?_)
    · rcases hs_v01 (hs_nb c_11) with rfl | rfl
      · refine lv_aload_n hx hb dX7_halves_26 rfl (lv_at hl 0 rfl) ?_
        refine va_get (D := D) (ci := 6) (v := .ref h_now) (C := RX7) (T := TX7) (N := 10) hx hb hts hiX7 hown hK hP 0 rfl rfl 0 (by decide) fl10 (fun _ h9 => h9) rfl dX7_halves_27 ?_
        refine lv_iload_n hx hb dX7_halves_30 rfl (lv_at hl 1 rfl) ?_
        refine hs_ci (va_runS (As := [.ref h_now, .int 0]) (rest := []) ⟨hx, hb, hml, hown, hts⟩ (c_fewestCuts0 l D k _ h_now n_weights n_kindOf n_light n_heavy n_seenBy n_seenCut n_seenFound) (va_cwS 2 hts gX7_halves_X1_fewestCuts rfl rfl rfl (by decide +kernel) ⟨Nat.le_of_ble_eq_true rfl, Nat.le_of_ble_eq_true rfl⟩) (hs_preS hK hN (hs_subP (w := [(h_now, .inr (5, [.ref n_weights, .ref n_kindOf, .ref n_light, .ref n_heavy, .ref n_seenBy, .ref n_seenCut, .ref n_seenFound, .int 2, .int 0, .int 0, .int 0, .int 0, .int 2, .int 0, .int 0]))]) hP [1] rfl) (hD.sub (ws' := [(h_now, .inr (5, [.ref n_weights, .ref n_kindOf, .ref n_light, .ref n_heavy, .ref n_seenBy, .ref n_seenCut, .ref n_seenFound, .int 2, .int 0, .int 0, .int 0, .int 0, .int 2, .int 0, .int 0]))]) [1] (by decide) rfl)) rfl rfl hl.1 rfl (lv_room (Nat.le_of_ble_eq_true rfl)) dX7_halves_31 ⟨Nat.le_of_ble_eq_true rfl, Nat.le_of_ble_eq_true rfl⟩) hP hD hS hA [1] [0] [(h, .inr (6, [.ref h_now, .ref h_trial, .ref h_images, .ref h_imageThere, .ref h_teller, .ref h_ranks, .ref h_court, .ref h_sheets, .int 0, .int 0]))] rfl rfl (by decide) (by decide) [0, 1] (fun u_14 => [(h, .inr (6, [.ref h_now, .ref h_trial, .ref h_images, .ref h_imageThere, .ref h_teller, .ref h_ranks, .ref h_court, .ref h_sheets, .int 0, .int 0])), (h_now, .inr (5, [.ref n_weights, .ref n_kindOf, .ref n_light, .ref n_heavy, .ref n_seenBy, .ref n_seenCut, .ref n_seenFound, .int 2, .int 0, .int 0, .int 0, .int 0, .int 2, .int 0, .int 0]))]) (fun _ => rfl) (by decide) (fun r_12 u_14 H locs hw_13 hP hD hS => ?_)
        have hP : va_P D vwCl [(h, .inr (6, [.ref h_now, .ref h_trial, .ref h_images, .ref h_imageThere, .ref h_teller, .ref h_ranks, .ref h_court, .ref h_sheets, .int 0, .int 0])), (h_now, .inr (5, [.ref n_weights, .ref n_kindOf, .ref n_light, .ref n_heavy, .ref n_seenBy, .ref n_seenCut, .ref n_seenFound, .int 2, .int 0, .int 0, .int 0, .int 0, .int 2, .int 0, .int 0]))] H := hP
        have hD : va_D A [(h, .inr (6, [.ref h_now, .ref h_trial, .ref h_images, .ref h_imageThere, .ref h_teller, .ref h_ranks, .ref h_court, .ref h_sheets, .int 0, .int 0])), (h_now, .inr (5, [.ref n_weights, .ref n_kindOf, .ref n_light, .ref n_heavy, .ref n_seenBy, .ref n_seenCut, .ref n_seenFound, .int 2, .int 0, .int 0, .int 0, .int 0, .int 2, .int 0, .int 0]))] := hD
        refine hs_topi 0 (hw_13.trans (by first | rfl | decide +kernel | rfl)) ?_
        refine lv_istore_n (lv' := [(3, .int 0), (0, .ref h), (1, .int 0), (2, .int 0)]) hx hb dX7_halves_34 rfl hl (by decide) rfl (fun ls hl => ?_)
        refine lv_iload_n hx hb dX7_halves_35 rfl (lv_at hl 0 rfl) ?_
        refine lv_bipush (v := (-4)) hx hb dX7_halves_36 (by decide) ?_
        refine lv_icmp_ne (tgt := 44) hx hb dX7_halves_38 (by decide) (fun c_15 => ?_) (fun c_15 => absurd c_15 (by decide))
        refine lv_iload_n hx hb dX7_halves_44 rfl (lv_at hl 3 rfl) ?_
        refine lv_if_ne (tgt := 59) hx hb dX7_halves_45 (by decide) (fun c_16 => absurd c_16 (by decide)) (fun c_16 => ?_)
        refine lv_aload_n hx hb dX7_halves_48 rfl (lv_at hl 1 rfl) ?_
        refine va_get (D := D) (ci := 6) (v := .ref h_now) (C := RX7) (T := TX7) (N := 10) hx hb hts hiX7 hown hK hP 0 rfl rfl 0 (by decide) fl10 (fun _ h9 => h9) rfl dX7_halves_49 ?_
        refine lv_iload_n hx hb dX7_halves_52 rfl (lv_at hl 0 rfl) ?_
        refine hs_ci (va_runS (As := [.ref h_now, .int 0]) (rest := []) ⟨hx, hb, hml, hown, hts⟩ (c_cutsOf_0 l D k _ h_now n_weights n_kindOf n_light n_heavy n_seenBy n_seenCut n_seenFound) (va_cwS 2 hts gX7_halves_X1_cutsOf rfl rfl rfl (by decide +kernel) ⟨Nat.le_of_ble_eq_true rfl, Nat.le_of_ble_eq_true rfl⟩) (hs_preS hK hN (hs_subP (w := [(h_now, .inr (5, [.ref n_weights, .ref n_kindOf, .ref n_light, .ref n_heavy, .ref n_seenBy, .ref n_seenCut, .ref n_seenFound, .int 2, .int 0, .int 0, .int 0, .int 0, .int 2, .int 0, .int 0]))]) hP [1] rfl) (hD.sub (ws' := [(h_now, .inr (5, [.ref n_weights, .ref n_kindOf, .ref n_light, .ref n_heavy, .ref n_seenBy, .ref n_seenCut, .ref n_seenFound, .int 2, .int 0, .int 0, .int 0, .int 0, .int 2, .int 0, .int 0]))]) [1] (by decide) rfl)) rfl rfl hl.1 rfl (lv_room (Nat.le_of_ble_eq_true rfl)) dX7_halves_53 ⟨Nat.le_of_ble_eq_true rfl, Nat.le_of_ble_eq_true rfl⟩) hP hD hS hA [1] [0] [(h, .inr (6, [.ref h_now, .ref h_trial, .ref h_images, .ref h_imageThere, .ref h_teller, .ref h_ranks, .ref h_court, .ref h_sheets, .int 0, .int 0]))] rfl rfl (by decide) (by decide) [0, 1] (fun u_19 => [(h, .inr (6, [.ref h_now, .ref h_trial, .ref h_images, .ref h_imageThere, .ref h_teller, .ref h_ranks, .ref h_court, .ref h_sheets, .int 0, .int 0])), (h_now, .inr (5, [.ref n_weights, .ref n_kindOf, .ref n_light, .ref n_heavy, .ref n_seenBy, .ref n_seenCut, .ref n_seenFound, .int 2, .int 0, .int 0, .int 0, .int 0, .int 2, .int 0, .int 0]))]) (fun _ => rfl) (by decide) (fun r_17 u_19 H locs hw_18 hP hD hS => ?_)
        have hP : va_P D vwCl [(h, .inr (6, [.ref h_now, .ref h_trial, .ref h_images, .ref h_imageThere, .ref h_teller, .ref h_ranks, .ref h_court, .ref h_sheets, .int 0, .int 0])), (h_now, .inr (5, [.ref n_weights, .ref n_kindOf, .ref n_light, .ref n_heavy, .ref n_seenBy, .ref n_seenCut, .ref n_seenFound, .int 2, .int 0, .int 0, .int 0, .int 0, .int 2, .int 0, .int 0]))] H := hP
        have hD : va_D A [(h, .inr (6, [.ref h_now, .ref h_trial, .ref h_images, .ref h_imageThere, .ref h_teller, .ref h_ranks, .ref h_court, .ref h_sheets, .int 0, .int 0])), (h_now, .inr (5, [.ref n_weights, .ref n_kindOf, .ref n_light, .ref n_heavy, .ref n_seenBy, .ref n_seenCut, .ref n_seenFound, .int 2, .int 0, .int 0, .int 0, .int 0, .int 2, .int 0, .int 0]))] := hD
        refine hs_topi 0 (hw_18.trans (by first | rfl | decide +kernel | rfl)) ?_
        refine lv_goto (tgt := 60) hx hb dX7_halves_56 (by decide) ?_
        exact hs_iret hx hb hr hlocks hK hP hD hS () [] rfl (by decide) dX7_halves_60 (by first | rfl | decide | (simp only [hsb_0, hsb_1] at c_7 c_11 c_15 c_16; simp [A_halves, c_7, c_11, c_15, c_16]; done) | (simp [A_halves, c_7, c_11, c_15, c_16]; done))
      · refine lv_aload_n hx hb dX7_halves_26 rfl (lv_at hl 0 rfl) ?_
        refine va_get (D := D) (ci := 6) (v := .ref h_now) (C := RX7) (T := TX7) (N := 10) hx hb hts hiX7 hown hK hP 0 rfl rfl 0 (by decide) fl10 (fun _ h9 => h9) rfl dX7_halves_27 ?_
        refine lv_iload_n hx hb dX7_halves_30 rfl (lv_at hl 1 rfl) ?_
        refine hs_ci (va_runS (As := [.ref h_now, .int 0]) (rest := []) ⟨hx, hb, hml, hown, hts⟩ (c_fewestCuts0 l D k _ h_now n_weights n_kindOf n_light n_heavy n_seenBy n_seenCut n_seenFound) (va_cwS 2 hts gX7_halves_X1_fewestCuts rfl rfl rfl (by decide +kernel) ⟨Nat.le_of_ble_eq_true rfl, Nat.le_of_ble_eq_true rfl⟩) (hs_preS hK hN (hs_subP (w := [(h_now, .inr (5, [.ref n_weights, .ref n_kindOf, .ref n_light, .ref n_heavy, .ref n_seenBy, .ref n_seenCut, .ref n_seenFound, .int 2, .int 0, .int 0, .int 0, .int 0, .int 2, .int 0, .int 0]))]) hP [1] rfl) (hD.sub (ws' := [(h_now, .inr (5, [.ref n_weights, .ref n_kindOf, .ref n_light, .ref n_heavy, .ref n_seenBy, .ref n_seenCut, .ref n_seenFound, .int 2, .int 0, .int 0, .int 0, .int 0, .int 2, .int 0, .int 0]))]) [1] (by decide) rfl)) rfl rfl hl.1 rfl (lv_room (Nat.le_of_ble_eq_true rfl)) dX7_halves_31 ⟨Nat.le_of_ble_eq_true rfl, Nat.le_of_ble_eq_true rfl⟩) hP hD hS hA [1] [0] [(h, .inr (6, [.ref h_now, .ref h_trial, .ref h_images, .ref h_imageThere, .ref h_teller, .ref h_ranks, .ref h_court, .ref h_sheets, .int 0, .int 0]))] rfl rfl (by decide) (by decide) [0, 1] (fun u_22 => [(h, .inr (6, [.ref h_now, .ref h_trial, .ref h_images, .ref h_imageThere, .ref h_teller, .ref h_ranks, .ref h_court, .ref h_sheets, .int 0, .int 0])), (h_now, .inr (5, [.ref n_weights, .ref n_kindOf, .ref n_light, .ref n_heavy, .ref n_seenBy, .ref n_seenCut, .ref n_seenFound, .int 2, .int 0, .int 0, .int 0, .int 0, .int 2, .int 0, .int 0]))]) (fun _ => rfl) (by decide) (fun r_20 u_22 H locs hw_21 hP hD hS => ?_)
        have hP : va_P D vwCl [(h, .inr (6, [.ref h_now, .ref h_trial, .ref h_images, .ref h_imageThere, .ref h_teller, .ref h_ranks, .ref h_court, .ref h_sheets, .int 0, .int 0])), (h_now, .inr (5, [.ref n_weights, .ref n_kindOf, .ref n_light, .ref n_heavy, .ref n_seenBy, .ref n_seenCut, .ref n_seenFound, .int 2, .int 0, .int 0, .int 0, .int 0, .int 2, .int 0, .int 0]))] H := hP
        have hD : va_D A [(h, .inr (6, [.ref h_now, .ref h_trial, .ref h_images, .ref h_imageThere, .ref h_teller, .ref h_ranks, .ref h_court, .ref h_sheets, .int 0, .int 0])), (h_now, .inr (5, [.ref n_weights, .ref n_kindOf, .ref n_light, .ref n_heavy, .ref n_seenBy, .ref n_seenCut, .ref n_seenFound, .int 2, .int 0, .int 0, .int 0, .int 0, .int 2, .int 0, .int 0]))] := hD
        refine hs_topi 0 (hw_21.trans (by first | rfl | decide +kernel | rfl)) ?_
        refine lv_istore_n (lv' := [(3, .int 0), (0, .ref h), (1, .int 0), (2, .int 1)]) hx hb dX7_halves_34 rfl hl (by decide) rfl (fun ls hl => ?_)
        refine lv_iload_n hx hb dX7_halves_35 rfl (lv_at hl 0 rfl) ?_
        refine lv_bipush (v := (-4)) hx hb dX7_halves_36 (by decide) ?_
        refine lv_icmp_ne (tgt := 44) hx hb dX7_halves_38 (by decide) (fun c_23 => ?_) (fun c_23 => absurd c_23 (by decide))
        refine lv_iload_n hx hb dX7_halves_44 rfl (lv_at hl 3 rfl) ?_
        refine lv_if_ne (tgt := 59) hx hb dX7_halves_45 (by decide) (fun c_24 => ?_) (fun c_24 => absurd c_24 (by decide))
        refine lv_iload_n hx hb dX7_halves_59 rfl (lv_at hl 0 rfl) ?_
        exact hs_iret hx hb hr hlocks hK hP hD hS () [] rfl (by decide) dX7_halves_60 (by first | rfl | decide | (simp only [hsb_0, hsb_1] at c_7 c_11 c_23 c_24; simp [A_halves, c_7, c_11, c_23, c_24]; done) | (simp [A_halves, c_7, c_11, c_23, c_24]; done))
    · refine lv_iconst (v := (-1)) hx hb dX7_halves_24 (by decide) ?_
      exact hs_iret hx hb hr hlocks hK hP hD hS () [] rfl (by decide) dX7_halves_25 (by first | rfl | decide | (simp only [hsb_0, hsb_1] at c_7 c_11; simp [A_halves, c_7, c_11]; done) | (simp [A_halves, c_7, c_11]; done))

set_option maxHeartbeats 4000000 in
set_option maxRecDepth 100000 in
theorem p_stop (l : Launch) (D : va_G) (k : Nat → ClassId) (sz : Nat) (h : Nat) (h_now : Nat) (h_trial : Nat) (h_images : Nat) (h_imageThere : Nat) (h_teller : Nat) (h_ranks : Nat) (h_court : Nat) (h_sheets : Nat) (n_weights : Nat) (n_kindOf : Nat) (n_light : Nat) (n_heavy : Nat) (n_seenBy : Nat) (n_seenCut : Nat) (n_seenFound : Nat) (a : Int32) (what : Int32)  : MI l yX7_stop wsX7_stop ({ frames := 1, cells := 0, slots := 0, locals := 22 }) D k [.ref h, .int a, .int what] [(h, .inr (6, [.ref h_now, .ref h_trial, .ref h_images, .ref h_imageThere, .ref h_teller, .ref h_ranks, .ref h_court, .ref h_sheets, .int 0, .int 0])), (h_now, .inr (5, [.ref n_weights, .ref n_kindOf, .ref n_light, .ref n_heavy, .ref n_seenBy, .ref n_seenCut, .ref n_seenFound, .int 2, .int 0, .int 0, .int 0, .int 0, .int 2, .int 0, .int 0]))] sz (fun (r : Int32) (u : Unit) => r = A_stop a what) (fun (u : Unit) => []) := by
  refine Met.ofW (cc := cX7_stop) (maxL := 7) (ret := (some .int)) (by decide) rfl ?_
  intro p e s m args below meth c s₁ B hml hv
  obtain ⟨rfl, hsz, hP, hK, hD0, hN⟩ := hv
  have hx := B.exec
  have hb := B.bytes
  have hr := B.returns
  have hlocks := B.notSynchronized
  have hts := atoms_spec (ws := wsX7_stop) B.pre
  have hown : s.vm.findClass RX7 = some m.cls := findClass_of_methodNamed B.named
  have hiX6 : ∀ w ∈ u_ws RX6 TX6 15, w ∈ wsX7_stop := by decide +kernel
  have hiX7 : ∀ w ∈ u_ws RX7 TX7 10, w ∈ wsX7_stop := by decide +kernel
  have fl10 := hts (.fieldLink RX7 10 "HalfScales" "now" "LHalfScales$Thing;") (by decide +kernel)
  have fl102 := hts (.fieldLink RX7 102 "HalfScales$Thing" "fine" "I") (by decide +kernel)
  subst hsz
  have hD := hD0.self (sz := s.heap.size)
  generalize hAe : va_A [(h, .inr (6, [.ref h_now, .ref h_trial, .ref h_images, .ref h_imageThere, .ref h_teller, .ref h_ranks, .ref h_court, .ref h_sheets, .int 0, .int 0])), (h_now, .inr (5, [.ref n_weights, .ref n_kindOf, .ref n_light, .ref n_heavy, .ref n_seenBy, .ref n_seenCut, .ref n_seenFound, .int 2, .int 0, .int 0, .int 0, .int 0, .int 2, .int 0, .int 0]))] s.heap.size = A at hD ⊢
  have hA : ∀ q : Nat, s.heap.size ≤ q → A q := fun q h => by rw [← hAe]; exact Or.inr h
  have hS : va_S A s.heap s.heap [] := va_S.rf
  have hl := lv_entry ([.ref h, .int a, .int what]) (n := 7) (Nat.le_of_ble_eq_true rfl)
  rw [lg_entry_eq]
  generalize (lg_sl ([.ref h, .int a, .int what]) ++ List.replicate (7 - (lg_sl ([.ref h, .int a, .int what])).length) Slot.unset).toArray = ls at hl ⊢
  have hl : lv_has ls 7 [(0, .ref h), (1, .int a), (2, .int what)] := hl
  have hP : va_P D vwCl [(h, .inr (6, [.ref h_now, .ref h_trial, .ref h_images, .ref h_imageThere, .ref h_teller, .ref h_ranks, .ref h_court, .ref h_sheets, .int 0, .int 0])), (h_now, .inr (5, [.ref n_weights, .ref n_kindOf, .ref n_light, .ref n_heavy, .ref n_seenBy, .ref n_seenCut, .ref n_seenFound, .int 2, .int 0, .int 0, .int 0, .int 0, .int 2, .int 0, .int 0]))] s.heap := hP
  refine lv_iload_n hx hb dX7_stop_0 rfl (lv_at hl 1 rfl) ?_
  refine lv_iconst (v := 0) hx hb dX7_stop_1 (by decide) ?_
  refine lv_bipush (v := 99) hx hb dX7_stop_2 (by decide) ?_
  refine hs_pi (va_runS (As := [.int a, .int 0, .int 99]) (rest := []) ⟨hx, hb, hml, hown, hts⟩ (c_within l D k _ a 0 99) (va_cwS 3 hts gX7_stop_X7_within rfl rfl rfl (by decide +kernel) ⟨Nat.le_of_ble_eq_true rfl, Nat.le_of_ble_eq_true rfl⟩) (hs_preS hK hN (hs_subP (w := []) hP [] rfl) (hD.sub (ws' := []) [] (by decide) rfl)) rfl rfl hl.1 rfl (lv_room (Nat.le_of_ble_eq_true rfl)) dX7_stop_4 ⟨Nat.le_of_ble_eq_true rfl, Nat.le_of_ble_eq_true rfl⟩) hP hD hS hA (fun r_1 u_3 H locs hw_2 hP hS => ?_)
  refine hs_topi (hsb (hsin a 0 99)) hw_2 ?_
  refine lv_if_eq (tgt := 19) hx hb dX7_stop_7 (by decide) (fun c_4 => ?_) (fun c_4 => ?_)
  · refine lv_iconst (v := (-1)) hx hb dX7_stop_19 (by decide) ?_
    exact hs_iret hx hb hr hlocks hK hP hD hS () [] rfl (by decide) dX7_stop_20 (by first | rfl | decide | (simp only [hsb_0, hsb_1] at c_4; simp [A_stop, c_4]; done) | (simp [A_stop, c_4]; done))
  · refine lv_iload_n hx hb dX7_stop_10 rfl (lv_at hl 2 rfl) ?_
    refine lv_iconst (v := 0) hx hb dX7_stop_11 (by decide) ?_
    refine lv_iconst (v := 1) hx hb dX7_stop_12 (by decide) ?_
    refine hs_pi (va_runS (As := [.int what, .int 0, .int 1]) (rest := []) ⟨hx, hb, hml, hown, hts⟩ (c_within l D k _ what 0 1) (va_cwS 3 hts gX7_stop_X7_within rfl rfl rfl (by decide +kernel) ⟨Nat.le_of_ble_eq_true rfl, Nat.le_of_ble_eq_true rfl⟩) (hs_preS hK hN (hs_subP (w := []) hP [] rfl) (hD.sub (ws' := []) [] (by decide) rfl)) rfl rfl hl.1 rfl (lv_room (Nat.le_of_ble_eq_true rfl)) dX7_stop_13 ⟨Nat.le_of_ble_eq_true rfl, Nat.le_of_ble_eq_true rfl⟩) hP hD hS hA (fun r_5 u_7 H locs hw_6 hP hS => ?_)
    refine hs_topi (hsb (hsin what 0 1)) hw_6 ?_
    refine lv_if_ne (tgt := 21) hx hb dX7_stop_16 (by decide) (fun c_8 => ?_) (fun c_8 => ?_)
    · rcases hs_v01 (hs_nb c_8) with rfl | rfl
      · refine lv_aload_n hx hb dX7_stop_21 rfl (lv_at hl 0 rfl) ?_
        refine va_get (D := D) (ci := 6) (v := .ref h_now) (C := RX7) (T := TX7) (N := 10) hx hb hts hiX7 hown hK hP 0 rfl rfl 0 (by decide) fl10 (fun _ h9 => h9) rfl dX7_stop_22 ?_
        refine va_get (D := D) (ci := 5) (v := .int 0) (C := RX6) (T := TX6) (N := 15) hx hb hts hiX6 hown hK hP 1 rfl rfl 10 (by decide) fl102 (fun _ h9 => h9) rfl dX7_stop_25 ?_
        refine lv_istore_n (lv' := [(3, .int 0), (0, .ref h), (1, .int a), (2, .int 0)]) hx hb dX7_stop_28 rfl hl (by decide) rfl (fun ls hl => ?_)
        refine lv_iconst (v := 0) hx hb dX7_stop_29 (by decide) ?_
        refine lv_istore (lv' := [(4, .int 0), (3, .int 0), (0, .ref h), (1, .int a), (2, .int 0)]) hx hb dX7_stop_30 hl (by decide) rfl (fun ls hl => ?_)
        refine lv_iload_n hx hb dX7_stop_32 rfl (lv_at hl 1 rfl) ?_
        refine lv_istore (lv' := [(5, .int 0), (4, .int 0), (3, .int 0), (0, .ref h), (1, .int a), (2, .int 0)]) hx hb dX7_stop_33 hl (by decide) rfl (fun ls hl => ?_)
        refine lv_iconst (v := 1) hx hb dX7_stop_35 (by decide) ?_
        refine lv_istore (lv' := [(6, .int 1), (5, .int 0), (4, .int 0), (3, .int 0), (0, .ref h), (1, .int a), (2, .int 0)]) hx hb dX7_stop_36 hl (by decide) rfl (fun ls hl => ?_)
        refine lv_iload hx hb dX7_stop_38 (lv_at hl 0 rfl) ?_
        refine lv_bipush (v := 99) hx hb dX7_stop_40 (by decide) ?_
        refine lv_icmp_gt (tgt := 84) hx hb dX7_stop_42 (by decide) (fun c_9 => absurd c_9 (by decide)) (fun c_9 => ?_)
        refine lv_iload_n hx hb dX7_stop_45 rfl (lv_at hl 3 rfl) ?_
        refine lv_iconst (v := 1) hx hb dX7_stop_46 (by decide) ?_
        refine lv_icmp_le (tgt := 84) hx hb dX7_stop_47 (by decide) (fun c_10 => ?_) (fun c_10 => absurd c_10 (by decide))
        refine lv_iload_n hx hb dX7_stop_84 rfl (lv_at hl 6 rfl) ?_
        refine lv_if_ne (tgt := 93) hx hb dX7_stop_85 (by decide) (fun c_11 => absurd c_11 (by decide)) (fun c_11 => ?_)
        refine lv_iload hx hb dX7_stop_88 (lv_at hl 2 rfl) ?_
        refine lv_goto (tgt := 95) hx hb dX7_stop_90 (by decide) ?_
        exact hs_iret hx hb hr hlocks hK hP hD hS () [] rfl (by decide) dX7_stop_95 (by first | rfl | decide | (simp only [hsb_0, hsb_1] at c_4 c_8 c_9 c_10 c_11; simp [A_stop, c_4, c_8, c_9, c_10, c_11]; done) | (simp [A_stop, c_4, c_8, c_9, c_10, c_11]; done))
      · refine lv_aload_n hx hb dX7_stop_21 rfl (lv_at hl 0 rfl) ?_
        refine va_get (D := D) (ci := 6) (v := .ref h_now) (C := RX7) (T := TX7) (N := 10) hx hb hts hiX7 hown hK hP 0 rfl rfl 0 (by decide) fl10 (fun _ h9 => h9) rfl dX7_stop_22 ?_
        refine va_get (D := D) (ci := 5) (v := .int 0) (C := RX6) (T := TX6) (N := 15) hx hb hts hiX6 hown hK hP 1 rfl rfl 10 (by decide) fl102 (fun _ h9 => h9) rfl dX7_stop_25 ?_
        refine lv_istore_n (lv' := [(3, .int 0), (0, .ref h), (1, .int a), (2, .int 1)]) hx hb dX7_stop_28 rfl hl (by decide) rfl (fun ls hl => ?_)
        refine lv_iconst (v := 0) hx hb dX7_stop_29 (by decide) ?_
        refine lv_istore (lv' := [(4, .int 0), (3, .int 0), (0, .ref h), (1, .int a), (2, .int 1)]) hx hb dX7_stop_30 hl (by decide) rfl (fun ls hl => ?_)
        refine lv_iload_n hx hb dX7_stop_32 rfl (lv_at hl 1 rfl) ?_
        refine lv_istore (lv' := [(5, .int 0), (4, .int 0), (3, .int 0), (0, .ref h), (1, .int a), (2, .int 1)]) hx hb dX7_stop_33 hl (by decide) rfl (fun ls hl => ?_)
        refine lv_iconst (v := 1) hx hb dX7_stop_35 (by decide) ?_
        refine lv_istore (lv' := [(6, .int 1), (5, .int 0), (4, .int 0), (3, .int 0), (0, .ref h), (1, .int a), (2, .int 1)]) hx hb dX7_stop_36 hl (by decide) rfl (fun ls hl => ?_)
        refine lv_iload hx hb dX7_stop_38 (lv_at hl 0 rfl) ?_
        refine lv_bipush (v := 99) hx hb dX7_stop_40 (by decide) ?_
        refine lv_icmp_gt (tgt := 84) hx hb dX7_stop_42 (by decide) (fun c_12 => absurd c_12 (by decide)) (fun c_12 => ?_)
        refine lv_iload_n hx hb dX7_stop_45 rfl (lv_at hl 3 rfl) ?_
        refine lv_iconst (v := 1) hx hb dX7_stop_46 (by decide) ?_
        refine lv_icmp_le (tgt := 84) hx hb dX7_stop_47 (by decide) (fun c_13 => ?_) (fun c_13 => absurd c_13 (by decide))
        refine lv_iload_n hx hb dX7_stop_84 rfl (lv_at hl 6 rfl) ?_
        refine lv_if_ne (tgt := 93) hx hb dX7_stop_85 (by decide) (fun c_14 => ?_) (fun c_14 => absurd c_14 (by decide))
        refine lv_iload hx hb dX7_stop_93 (lv_at hl 1 rfl) ?_
        exact hs_iret hx hb hr hlocks hK hP hD hS () [] rfl (by decide) dX7_stop_95 (by first | rfl | decide | (simp only [hsb_0, hsb_1] at c_4 c_8 c_12 c_13 c_14; simp [A_stop, c_4, c_8, c_12, c_13, c_14]; done) | (simp [A_stop, c_4, c_8, c_12, c_13, c_14]; done))
    · refine lv_iconst (v := (-1)) hx hb dX7_stop_19 (by decide) ?_
      exact hs_iret hx hb hr hlocks hK hP hD hS () [] rfl (by decide) dX7_stop_20 (by first | rfl | decide | (simp only [hsb_0, hsb_1] at c_4 c_8; simp [A_stop, c_4, c_8]; done) | (simp [A_stop, c_4, c_8]; done))

set_option maxHeartbeats 4000000 in
set_option maxRecDepth 100000 in
theorem p_orders (l : Launch) (D : va_G) (k : Nat → ClassId) (sz : Nat) (h : Nat) (h_now : Nat) (h_trial : Nat) (h_images : Nat) (h_imageThere : Nat) (h_teller : Nat) (h_ranks : Nat) (h_court : Nat) (h_sheets : Nat) (n_weights : Nat) (n_kindOf : Nat) (n_light : Nat) (n_heavy : Nat) (n_seenBy : Nat) (n_seenCut : Nat) (n_seenFound : Nat) (q_ahead : Nat) (q_ways : Nat) (what : Int32)  : MI l yX7_orders wsX7_orders ({ frames := 3, cells := 0, slots := 0, locals := 68 }) D k [.ref h, .int what] [(h, .inr (6, [.ref h_now, .ref h_trial, .ref h_images, .ref h_imageThere, .ref h_teller, .ref h_ranks, .ref h_court, .ref h_sheets, .int 0, .int 0])), (h_now, .inr (5, [.ref n_weights, .ref n_kindOf, .ref n_light, .ref n_heavy, .ref n_seenBy, .ref n_seenCut, .ref n_seenFound, .int 2, .int 0, .int 0, .int 0, .int 0, .int 2, .int 0, .int 0])), (h_ranks, .inr (1, [.ref q_ahead, .ref q_ways, .int 0])), (q_ahead, .inl (k 0, 5, .inl (hsz))), (q_ways, .inl (k 0, 32, .inl (hsz)))] sz (fun (r : Int32) (u : Unit) => r = A_orders what) (fun (u : Unit) => []) := by
  refine Met.ofW (cc := cX7_orders) (maxL := 2) (ret := (some .int)) (by decide) rfl ?_
  intro p e s m args below meth c s₁ B hml hv
  obtain ⟨rfl, hsz, hP, hK, hD0, hN⟩ := hv
  have hx := B.exec
  have hb := B.bytes
  have hr := B.returns
  have hlocks := B.notSynchronized
  have hts := atoms_spec (ws := wsX7_orders) B.pre
  have hown : s.vm.findClass RX7 = some m.cls := findClass_of_methodNamed B.named
  have hiX6 : ∀ w ∈ u_ws RX6 TX6 15, w ∈ wsX7_orders := by decide +kernel
  have hiX7 : ∀ w ∈ u_ws RX7 TX7 10, w ∈ wsX7_orders := by decide +kernel
  have fl37 := hts (.fieldLink RX7 37 "HalfScales" "ranks" "LHalfScales$Ranks;") (by decide +kernel)
  have fl10 := hts (.fieldLink RX7 10 "HalfScales" "now" "LHalfScales$Thing;") (by decide +kernel)
  have fl108 := hts (.fieldLink RX7 108 "HalfScales$Thing" "halfCount" "I") (by decide +kernel)
  subst hsz
  have hD := hD0.self (sz := s.heap.size)
  generalize hAe : va_A [(h, .inr (6, [.ref h_now, .ref h_trial, .ref h_images, .ref h_imageThere, .ref h_teller, .ref h_ranks, .ref h_court, .ref h_sheets, .int 0, .int 0])), (h_now, .inr (5, [.ref n_weights, .ref n_kindOf, .ref n_light, .ref n_heavy, .ref n_seenBy, .ref n_seenCut, .ref n_seenFound, .int 2, .int 0, .int 0, .int 0, .int 0, .int 2, .int 0, .int 0])), (h_ranks, .inr (1, [.ref q_ahead, .ref q_ways, .int 0])), (q_ahead, .inl (k 0, 5, .inl (hsz))), (q_ways, .inl (k 0, 32, .inl (hsz)))] s.heap.size = A at hD ⊢
  have hA : ∀ q : Nat, s.heap.size ≤ q → A q := fun q h => by rw [← hAe]; exact Or.inr h
  have hS : va_S A s.heap s.heap [] := va_S.rf
  have hl := lv_entry ([.ref h, .int what]) (n := 2) (Nat.le_of_ble_eq_true rfl)
  rw [lg_entry_eq]
  generalize (lg_sl ([.ref h, .int what]) ++ List.replicate (2 - (lg_sl ([.ref h, .int what])).length) Slot.unset).toArray = ls at hl ⊢
  have hl : lv_has ls 2 [(0, .ref h), (1, .int what)] := hl
  have hP : va_P D vwCl [(h, .inr (6, [.ref h_now, .ref h_trial, .ref h_images, .ref h_imageThere, .ref h_teller, .ref h_ranks, .ref h_court, .ref h_sheets, .int 0, .int 0])), (h_now, .inr (5, [.ref n_weights, .ref n_kindOf, .ref n_light, .ref n_heavy, .ref n_seenBy, .ref n_seenCut, .ref n_seenFound, .int 2, .int 0, .int 0, .int 0, .int 0, .int 2, .int 0, .int 0])), (h_ranks, .inr (1, [.ref q_ahead, .ref q_ways, .int 0])), (q_ahead, .inl (k 0, 5, .inl (hsz))), (q_ways, .inl (k 0, 32, .inl (hsz)))] s.heap := hP
  refine lv_aload_n hx hb dX7_orders_0 rfl (lv_at hl 0 rfl) ?_
  refine va_get (D := D) (ci := 6) (v := .ref h_ranks) (C := RX7) (T := TX7) (N := 10) hx hb hts hiX7 hown hK hP 0 rfl rfl 5 (by decide) fl37 (fun _ h9 => h9) rfl dX7_orders_1 ?_
  refine lv_aload_n hx hb dX7_orders_4 rfl (lv_at hl 0 rfl) ?_
  refine va_get (D := D) (ci := 6) (v := .ref h_now) (C := RX7) (T := TX7) (N := 10) hx hb hts hiX7 hown hK hP 0 rfl rfl 0 (by decide) fl10 (fun _ h9 => h9) rfl dX7_orders_5 ?_
  refine hs_cv (va_runV (As := [.ref h_now]) (rest := []) ⟨hx, hb, hml, hown, hts⟩ (c_learn0 l D k _ h_ranks q_ahead q_ways 0 h_now n_weights n_kindOf n_light n_heavy n_seenBy n_seenCut n_seenFound) (cwV 1 hts gX7_orders_X2_learn rfl rfl rfl (by decide +kernel) ⟨Nat.le_of_ble_eq_true rfl, Nat.le_of_ble_eq_true rfl⟩) (hs_preV hK hN (hs_subP (w := [(h_ranks, .inr (1, [.ref q_ahead, .ref q_ways, .int 0])), (q_ahead, .inl (k 0, 5, .inl (hsz))), (h_now, .inr (5, [.ref n_weights, .ref n_kindOf, .ref n_light, .ref n_heavy, .ref n_seenBy, .ref n_seenCut, .ref n_seenFound, .int 2, .int 0, .int 0, .int 0, .int 0, .int 2, .int 0, .int 0]))]) hP [2, 3, 1] rfl) (hD.sub (ws' := [(h_ranks, .inr (1, [.ref q_ahead, .ref q_ways, .int 0])), (q_ahead, .inl (k 0, 5, .inl (hsz))), (h_now, .inr (5, [.ref n_weights, .ref n_kindOf, .ref n_light, .ref n_heavy, .ref n_seenBy, .ref n_seenCut, .ref n_seenFound, .int 2, .int 0, .int 0, .int 0, .int 0, .int 2, .int 0, .int 0]))]) [2, 3, 1] (by decide) rfl) (ci := 1) (q0 := 0) rfl rfl) rfl rfl hl.1 rfl (lv_room (Nat.le_of_ble_eq_true rfl)) dX7_orders_8 ⟨Nat.le_of_ble_eq_true rfl, Nat.le_of_ble_eq_true rfl⟩) hP hD hS hA [2, 3, 1] [0, 4] [(h, .inr (6, [.ref h_now, .ref h_trial, .ref h_images, .ref h_imageThere, .ref h_teller, .ref h_ranks, .ref h_court, .ref h_sheets, .int 0, .int 0])), (q_ways, .inl (k 0, 32, .inl (hsz)))] rfl rfl (by decide) (by decide) [0, 4, 2, 3, 1] (fun u_3 => [(h, .inr (6, [.ref h_now, .ref h_trial, .ref h_images, .ref h_imageThere, .ref h_teller, .ref h_ranks, .ref h_court, .ref h_sheets, .int 0, .int 0])), (h_now, .inr (5, [.ref n_weights, .ref n_kindOf, .ref n_light, .ref n_heavy, .ref n_seenBy, .ref n_seenCut, .ref n_seenFound, .int 2, .int 0, .int 0, .int 0, .int 0, .int 2, .int 0, .int 0])), (h_ranks, .inr (1, [.ref q_ahead, .ref q_ways, .int 2])), (q_ahead, .inl (k 0, 5, .inl (hsz))), (q_ways, .inl (k 0, 32, .inl (hsz)))]) (fun _ => rfl) (by decide) (fun u_3 H locs hw_2 hP hD hS => ?_)
  have hP : va_P D vwCl [(h, .inr (6, [.ref h_now, .ref h_trial, .ref h_images, .ref h_imageThere, .ref h_teller, .ref h_ranks, .ref h_court, .ref h_sheets, .int 0, .int 0])), (h_now, .inr (5, [.ref n_weights, .ref n_kindOf, .ref n_light, .ref n_heavy, .ref n_seenBy, .ref n_seenCut, .ref n_seenFound, .int 2, .int 0, .int 0, .int 0, .int 0, .int 2, .int 0, .int 0])), (h_ranks, .inr (1, [.ref q_ahead, .ref q_ways, .int 2])), (q_ahead, .inl (k 0, 5, .inl (hsz))), (q_ways, .inl (k 0, 32, .inl (hsz)))] H := hP
  have hD : va_D A [(h, .inr (6, [.ref h_now, .ref h_trial, .ref h_images, .ref h_imageThere, .ref h_teller, .ref h_ranks, .ref h_court, .ref h_sheets, .int 0, .int 0])), (h_now, .inr (5, [.ref n_weights, .ref n_kindOf, .ref n_light, .ref n_heavy, .ref n_seenBy, .ref n_seenCut, .ref n_seenFound, .int 2, .int 0, .int 0, .int 0, .int 0, .int 2, .int 0, .int 0])), (h_ranks, .inr (1, [.ref q_ahead, .ref q_ways, .int 2])), (q_ahead, .inl (k 0, 5, .inl (hsz))), (q_ways, .inl (k 0, 32, .inl (hsz)))] := hD
  refine lv_iload_n hx hb dX7_orders_11 rfl (lv_at hl 1 rfl) ?_
  refine lv_if_ne (tgt := 23) hx hb dX7_orders_12 (by decide) (fun c_4 => ?_) (fun c_4 => ?_)
  · refine lv_iload_n hx hb dX7_orders_23 rfl (lv_at hl 1 rfl) ?_
    refine lv_iconst (v := 1) hx hb dX7_orders_24 (by decide) ?_
    refine lv_icmp_ne (tgt := 36) hx hb dX7_orders_25 (by decide) (fun c_5 => ?_) (fun c_5 => ?_)
    · refine lv_iload_n hx hb dX7_orders_36 rfl (lv_at hl 1 rfl) ?_
      refine lv_iconst (v := 2) hx hb dX7_orders_37 (by decide) ?_
      refine lv_icmp_ne (tgt := 49) hx hb dX7_orders_38 (by decide) (fun c_6 => ?_) (fun c_6 => ?_)
      · refine lv_iload_n hx hb dX7_orders_49 rfl (lv_at hl 1 rfl) ?_
        refine lv_bipush (v := 10) hx hb dX7_orders_50 (by decide) ?_
        refine lv_bipush (v := 9) hx hb dX7_orders_52 (by decide) ?_
        refine lv_aload_n hx hb dX7_orders_54 rfl (lv_at hl 0 rfl) ?_
        refine va_get (D := D) (ci := 6) (v := .ref h_now) (C := RX7) (T := TX7) (N := 10) hx hb hts hiX7 hown hK hP 0 rfl rfl 0 (by decide) fl10 (fun _ h9 => h9) rfl dX7_orders_55 ?_
        refine va_get (D := D) (ci := 5) (v := .int 2) (C := RX6) (T := TX6) (N := 15) hx hb hts hiX6 hown hK hP 1 rfl rfl 12 (by decide) fl108 (fun _ h9 => h9) rfl dX7_orders_58 ?_
        refine lv_iadd hx hb dX7_orders_61 ?_
        refine hs_topi 11 (by first | rfl | decide +kernel) ?_
        refine hs_pi (va_runS (As := [.int what, .int 10, .int 11]) (rest := []) ⟨hx, hb, hml, hown, hts⟩ (c_within l D k _ what 10 11) (va_cwS 3 hts gX7_orders_X7_within rfl rfl rfl (by decide +kernel) ⟨Nat.le_of_ble_eq_true rfl, Nat.le_of_ble_eq_true rfl⟩) (hs_preS hK hN (hs_subP (w := []) hP [] rfl) (hD.sub (ws' := []) [] (by decide) rfl)) rfl rfl hl.1 rfl (lv_room (Nat.le_of_ble_eq_true rfl)) dX7_orders_62 ⟨Nat.le_of_ble_eq_true rfl, Nat.le_of_ble_eq_true rfl⟩) hP hD hS hA (fun r_7 u_9 H locs hw_8 hP hS => ?_)
        refine hs_topi (hsb (hsin what 10 11)) hw_8 ?_
        refine lv_if_eq (tgt := 82) hx hb dX7_orders_65 (by decide) (fun c_10 => ?_) (fun c_10 => ?_)
        · refine lv_iconst (v := (-1)) hx hb dX7_orders_82 (by decide) ?_
          exact hs_iret hx hb hr hlocks hK hP hD hS () [] rfl (by decide) dX7_orders_83 (by first | rfl | decide | (simp only [hsb_0, hsb_1] at c_4 c_5 c_6 c_10; simp [A_orders, c_4, c_5, c_6, c_10]; done) | (simp [A_orders, c_4, c_5, c_6, c_10]; done) | exact hsA_orders_bad (hs_n0 c_4) (hs_n0 c_5))
        · rcases hs_v1011 (hs_nb c_10) with rfl | rfl
          · refine lv_aload_n hx hb dX7_orders_68 rfl (lv_at hl 0 rfl) ?_
            refine va_get (D := D) (ci := 6) (v := .ref h_ranks) (C := RX7) (T := TX7) (N := 10) hx hb hts hiX7 hown hK hP 0 rfl rfl 5 (by decide) fl37 (fun _ h9 => h9) rfl dX7_orders_69 ?_
            refine lv_iload_n hx hb dX7_orders_72 rfl (lv_at hl 1 rfl) ?_
            refine lv_bipush (v := 10) hx hb dX7_orders_73 (by decide) ?_
            refine lv_isub hx hb dX7_orders_75 ?_
            refine hs_topi 0 (by first | rfl | decide +kernel) ?_
            refine hs_ci (va_runV (As := [.int 0]) (rest := []) ⟨hx, hb, hml, hown, hts⟩ (c_ofFirst_0 l D k _ h_ranks q_ahead q_ways) (cwV 1 hts gX7_orders_X2_ofFirst rfl rfl rfl (by decide +kernel) ⟨Nat.le_of_ble_eq_true rfl, Nat.le_of_ble_eq_true rfl⟩) (hs_preV hK hN (hs_subP (w := [(h_ranks, .inr (1, [.ref q_ahead, .ref q_ways, .int 2])), (q_ahead, .inl (k 0, 5, .inl (hsz)))]) hP [2, 3] rfl) (hD.sub (ws' := [(h_ranks, .inr (1, [.ref q_ahead, .ref q_ways, .int 2])), (q_ahead, .inl (k 0, 5, .inl (hsz)))]) [2, 3] (by decide) rfl) (ci := 1) (q0 := 0) rfl rfl) rfl rfl hl.1 rfl (lv_room (Nat.le_of_ble_eq_true rfl)) dX7_orders_76 ⟨Nat.le_of_ble_eq_true rfl, Nat.le_of_ble_eq_true rfl⟩) hP hD hS hA [2, 3] [0, 1, 4] [(h, .inr (6, [.ref h_now, .ref h_trial, .ref h_images, .ref h_imageThere, .ref h_teller, .ref h_ranks, .ref h_court, .ref h_sheets, .int 0, .int 0])), (h_now, .inr (5, [.ref n_weights, .ref n_kindOf, .ref n_light, .ref n_heavy, .ref n_seenBy, .ref n_seenCut, .ref n_seenFound, .int 2, .int 0, .int 0, .int 0, .int 0, .int 2, .int 0, .int 0])), (q_ways, .inl (k 0, 32, .inl (hsz)))] rfl rfl (by decide) (by decide) [0, 1, 3, 4, 2] (fun u_13 => [(h, .inr (6, [.ref h_now, .ref h_trial, .ref h_images, .ref h_imageThere, .ref h_teller, .ref h_ranks, .ref h_court, .ref h_sheets, .int 0, .int 0])), (h_now, .inr (5, [.ref n_weights, .ref n_kindOf, .ref n_light, .ref n_heavy, .ref n_seenBy, .ref n_seenCut, .ref n_seenFound, .int 2, .int 0, .int 0, .int 0, .int 0, .int 2, .int 0, .int 0])), (h_ranks, .inr (1, [.ref q_ahead, .ref q_ways, .int 2])), (q_ahead, .inl (k 0, 5, .inl (hsz))), (q_ways, .inl (k 0, 32, .inl (hsz)))]) (fun _ => rfl) (by decide) (fun r_11 u_13 H locs hw_12 hP hD hS => ?_)
            have hP : va_P D vwCl [(h, .inr (6, [.ref h_now, .ref h_trial, .ref h_images, .ref h_imageThere, .ref h_teller, .ref h_ranks, .ref h_court, .ref h_sheets, .int 0, .int 0])), (h_now, .inr (5, [.ref n_weights, .ref n_kindOf, .ref n_light, .ref n_heavy, .ref n_seenBy, .ref n_seenCut, .ref n_seenFound, .int 2, .int 0, .int 0, .int 0, .int 0, .int 2, .int 0, .int 0])), (h_ranks, .inr (1, [.ref q_ahead, .ref q_ways, .int 2])), (q_ahead, .inl (k 0, 5, .inl (hsz))), (q_ways, .inl (k 0, 32, .inl (hsz)))] H := hP
            have hD : va_D A [(h, .inr (6, [.ref h_now, .ref h_trial, .ref h_images, .ref h_imageThere, .ref h_teller, .ref h_ranks, .ref h_court, .ref h_sheets, .int 0, .int 0])), (h_now, .inr (5, [.ref n_weights, .ref n_kindOf, .ref n_light, .ref n_heavy, .ref n_seenBy, .ref n_seenCut, .ref n_seenFound, .int 2, .int 0, .int 0, .int 0, .int 0, .int 2, .int 0, .int 0])), (h_ranks, .inr (1, [.ref q_ahead, .ref q_ways, .int 2])), (q_ahead, .inl (k 0, 5, .inl (hsz))), (q_ways, .inl (k 0, 32, .inl (hsz)))] := hD
            refine hs_topi 0 (hw_12.trans (by first | rfl | decide +kernel | rfl)) ?_
            refine lv_goto (tgt := 83) hx hb dX7_orders_79 (by decide) ?_
            exact hs_iret hx hb hr hlocks hK hP hD hS () [] rfl (by decide) dX7_orders_83 (by first | rfl | decide | (simp only [hsb_0, hsb_1] at c_4 c_5 c_6 c_10; simp [A_orders, c_4, c_5, c_6, c_10]; done) | (simp [A_orders, c_4, c_5, c_6, c_10]; done) | exact hsA_orders_bad (hs_n0 c_4) (hs_n0 c_5))
          · refine lv_aload_n hx hb dX7_orders_68 rfl (lv_at hl 0 rfl) ?_
            refine va_get (D := D) (ci := 6) (v := .ref h_ranks) (C := RX7) (T := TX7) (N := 10) hx hb hts hiX7 hown hK hP 0 rfl rfl 5 (by decide) fl37 (fun _ h9 => h9) rfl dX7_orders_69 ?_
            refine lv_iload_n hx hb dX7_orders_72 rfl (lv_at hl 1 rfl) ?_
            refine lv_bipush (v := 10) hx hb dX7_orders_73 (by decide) ?_
            refine lv_isub hx hb dX7_orders_75 ?_
            refine hs_topi 1 (by first | rfl | decide +kernel) ?_
            refine hs_ci (va_runV (As := [.int 1]) (rest := []) ⟨hx, hb, hml, hown, hts⟩ (c_ofFirst_1 l D k _ h_ranks q_ahead q_ways) (cwV 1 hts gX7_orders_X2_ofFirst rfl rfl rfl (by decide +kernel) ⟨Nat.le_of_ble_eq_true rfl, Nat.le_of_ble_eq_true rfl⟩) (hs_preV hK hN (hs_subP (w := [(h_ranks, .inr (1, [.ref q_ahead, .ref q_ways, .int 2])), (q_ahead, .inl (k 0, 5, .inl (hsz)))]) hP [2, 3] rfl) (hD.sub (ws' := [(h_ranks, .inr (1, [.ref q_ahead, .ref q_ways, .int 2])), (q_ahead, .inl (k 0, 5, .inl (hsz)))]) [2, 3] (by decide) rfl) (ci := 1) (q0 := 0) rfl rfl) rfl rfl hl.1 rfl (lv_room (Nat.le_of_ble_eq_true rfl)) dX7_orders_76 ⟨Nat.le_of_ble_eq_true rfl, Nat.le_of_ble_eq_true rfl⟩) hP hD hS hA [2, 3] [0, 1, 4] [(h, .inr (6, [.ref h_now, .ref h_trial, .ref h_images, .ref h_imageThere, .ref h_teller, .ref h_ranks, .ref h_court, .ref h_sheets, .int 0, .int 0])), (h_now, .inr (5, [.ref n_weights, .ref n_kindOf, .ref n_light, .ref n_heavy, .ref n_seenBy, .ref n_seenCut, .ref n_seenFound, .int 2, .int 0, .int 0, .int 0, .int 0, .int 2, .int 0, .int 0])), (q_ways, .inl (k 0, 32, .inl (hsz)))] rfl rfl (by decide) (by decide) [0, 1, 3, 4, 2] (fun u_16 => [(h, .inr (6, [.ref h_now, .ref h_trial, .ref h_images, .ref h_imageThere, .ref h_teller, .ref h_ranks, .ref h_court, .ref h_sheets, .int 0, .int 0])), (h_now, .inr (5, [.ref n_weights, .ref n_kindOf, .ref n_light, .ref n_heavy, .ref n_seenBy, .ref n_seenCut, .ref n_seenFound, .int 2, .int 0, .int 0, .int 0, .int 0, .int 2, .int 0, .int 0])), (h_ranks, .inr (1, [.ref q_ahead, .ref q_ways, .int 2])), (q_ahead, .inl (k 0, 5, .inl (hsz))), (q_ways, .inl (k 0, 32, .inl (hsz)))]) (fun _ => rfl) (by decide) (fun r_14 u_16 H locs hw_15 hP hD hS => ?_)
            have hP : va_P D vwCl [(h, .inr (6, [.ref h_now, .ref h_trial, .ref h_images, .ref h_imageThere, .ref h_teller, .ref h_ranks, .ref h_court, .ref h_sheets, .int 0, .int 0])), (h_now, .inr (5, [.ref n_weights, .ref n_kindOf, .ref n_light, .ref n_heavy, .ref n_seenBy, .ref n_seenCut, .ref n_seenFound, .int 2, .int 0, .int 0, .int 0, .int 0, .int 2, .int 0, .int 0])), (h_ranks, .inr (1, [.ref q_ahead, .ref q_ways, .int 2])), (q_ahead, .inl (k 0, 5, .inl (hsz))), (q_ways, .inl (k 0, 32, .inl (hsz)))] H := hP
            have hD : va_D A [(h, .inr (6, [.ref h_now, .ref h_trial, .ref h_images, .ref h_imageThere, .ref h_teller, .ref h_ranks, .ref h_court, .ref h_sheets, .int 0, .int 0])), (h_now, .inr (5, [.ref n_weights, .ref n_kindOf, .ref n_light, .ref n_heavy, .ref n_seenBy, .ref n_seenCut, .ref n_seenFound, .int 2, .int 0, .int 0, .int 0, .int 0, .int 2, .int 0, .int 0])), (h_ranks, .inr (1, [.ref q_ahead, .ref q_ways, .int 2])), (q_ahead, .inl (k 0, 5, .inl (hsz))), (q_ways, .inl (k 0, 32, .inl (hsz)))] := hD
            refine hs_topi 1 (hw_15.trans (by first | rfl | decide +kernel | rfl)) ?_
            refine lv_goto (tgt := 83) hx hb dX7_orders_79 (by decide) ?_
            exact hs_iret hx hb hr hlocks hK hP hD hS () [] rfl (by decide) dX7_orders_83 (by first | rfl | decide | (simp only [hsb_0, hsb_1] at c_4 c_5 c_6 c_10; simp [A_orders, c_4, c_5, c_6, c_10]; done) | (simp [A_orders, c_4, c_5, c_6, c_10]; done) | exact hsA_orders_bad (hs_n0 c_4) (hs_n0 c_5))
      · subst c_6
        refine lv_aload_n hx hb dX7_orders_41 rfl (lv_at hl 0 rfl) ?_
        refine va_get (D := D) (ci := 6) (v := .ref h_ranks) (C := RX7) (T := TX7) (N := 10) hx hb hts hiX7 hown hK hP 0 rfl rfl 5 (by decide) fl37 (fun _ h9 => h9) rfl dX7_orders_42 ?_
        refine hs_ci (va_runV (As := []) (rest := []) ⟨hx, hb, hml, hown, hts⟩ (c_heaviest0 l D k _ h_ranks q_ahead q_ways) (cwV 0 hts gX7_orders_X2_heaviest rfl rfl rfl (by decide +kernel) ⟨Nat.le_of_ble_eq_true rfl, Nat.le_of_ble_eq_true rfl⟩) (hs_preV hK hN (hs_subP (w := [(h_ranks, .inr (1, [.ref q_ahead, .ref q_ways, .int 2])), (q_ahead, .inl (k 0, 5, .inl (hsz)))]) hP [2, 3] rfl) (hD.sub (ws' := [(h_ranks, .inr (1, [.ref q_ahead, .ref q_ways, .int 2])), (q_ahead, .inl (k 0, 5, .inl (hsz)))]) [2, 3] (by decide) rfl) (ci := 1) (q0 := 0) rfl rfl) rfl rfl hl.1 rfl (lv_room (Nat.le_of_ble_eq_true rfl)) dX7_orders_45 ⟨Nat.le_of_ble_eq_true rfl, Nat.le_of_ble_eq_true rfl⟩) hP hD hS hA [2, 3] [0, 1, 4] [(h, .inr (6, [.ref h_now, .ref h_trial, .ref h_images, .ref h_imageThere, .ref h_teller, .ref h_ranks, .ref h_court, .ref h_sheets, .int 0, .int 0])), (h_now, .inr (5, [.ref n_weights, .ref n_kindOf, .ref n_light, .ref n_heavy, .ref n_seenBy, .ref n_seenCut, .ref n_seenFound, .int 2, .int 0, .int 0, .int 0, .int 0, .int 2, .int 0, .int 0])), (q_ways, .inl (k 0, 32, .inl (hsz)))] rfl rfl (by decide) (by decide) [0, 1, 3, 4, 2] (fun u_19 => [(h, .inr (6, [.ref h_now, .ref h_trial, .ref h_images, .ref h_imageThere, .ref h_teller, .ref h_ranks, .ref h_court, .ref h_sheets, .int 0, .int 0])), (h_now, .inr (5, [.ref n_weights, .ref n_kindOf, .ref n_light, .ref n_heavy, .ref n_seenBy, .ref n_seenCut, .ref n_seenFound, .int 2, .int 0, .int 0, .int 0, .int 0, .int 2, .int 0, .int 0])), (h_ranks, .inr (1, [.ref q_ahead, .ref q_ways, .int 2])), (q_ahead, .inl (k 0, 5, .inl (hsz))), (q_ways, .inl (k 0, 32, .inl (hsz)))]) (fun _ => rfl) (by decide) (fun r_17 u_19 H locs hw_18 hP hD hS => ?_)
        have hP : va_P D vwCl [(h, .inr (6, [.ref h_now, .ref h_trial, .ref h_images, .ref h_imageThere, .ref h_teller, .ref h_ranks, .ref h_court, .ref h_sheets, .int 0, .int 0])), (h_now, .inr (5, [.ref n_weights, .ref n_kindOf, .ref n_light, .ref n_heavy, .ref n_seenBy, .ref n_seenCut, .ref n_seenFound, .int 2, .int 0, .int 0, .int 0, .int 0, .int 2, .int 0, .int 0])), (h_ranks, .inr (1, [.ref q_ahead, .ref q_ways, .int 2])), (q_ahead, .inl (k 0, 5, .inl (hsz))), (q_ways, .inl (k 0, 32, .inl (hsz)))] H := hP
        have hD : va_D A [(h, .inr (6, [.ref h_now, .ref h_trial, .ref h_images, .ref h_imageThere, .ref h_teller, .ref h_ranks, .ref h_court, .ref h_sheets, .int 0, .int 0])), (h_now, .inr (5, [.ref n_weights, .ref n_kindOf, .ref n_light, .ref n_heavy, .ref n_seenBy, .ref n_seenCut, .ref n_seenFound, .int 2, .int 0, .int 0, .int 0, .int 0, .int 2, .int 0, .int 0])), (h_ranks, .inr (1, [.ref q_ahead, .ref q_ways, .int 2])), (q_ahead, .inl (k 0, 5, .inl (hsz))), (q_ways, .inl (k 0, 32, .inl (hsz)))] := hD
        refine hs_topi 3 (hw_18.trans (by first | rfl | decide +kernel | rfl)) ?_
        exact hs_iret hx hb hr hlocks hK hP hD hS () [] rfl (by decide) dX7_orders_48 (by first | rfl | decide | (simp only [hsb_0, hsb_1] at c_4 c_5; simp [A_orders, c_4, c_5]; done) | (simp [A_orders, c_4, c_5]; done) | exact hsA_orders_bad (hs_n0 c_4) (hs_n0 c_5))
    · subst c_5
      refine lv_aload_n hx hb dX7_orders_28 rfl (lv_at hl 0 rfl) ?_
      refine va_get (D := D) (ci := 6) (v := .ref h_ranks) (C := RX7) (T := TX7) (N := 10) hx hb hts hiX7 hown hK hP 0 rfl rfl 5 (by decide) fl37 (fun _ h9 => h9) rfl dX7_orders_29 ?_
      refine hs_ci (va_runV (As := []) (rest := []) ⟨hx, hb, hml, hown, hts⟩ (c_lightest0 l D k _ h_ranks q_ahead q_ways) (cwV 0 hts gX7_orders_X2_lightest rfl rfl rfl (by decide +kernel) ⟨Nat.le_of_ble_eq_true rfl, Nat.le_of_ble_eq_true rfl⟩) (hs_preV hK hN (hs_subP (w := [(h_ranks, .inr (1, [.ref q_ahead, .ref q_ways, .int 2])), (q_ahead, .inl (k 0, 5, .inl (hsz)))]) hP [2, 3] rfl) (hD.sub (ws' := [(h_ranks, .inr (1, [.ref q_ahead, .ref q_ways, .int 2])), (q_ahead, .inl (k 0, 5, .inl (hsz)))]) [2, 3] (by decide) rfl) (ci := 1) (q0 := 0) rfl rfl) rfl rfl hl.1 rfl (lv_room (Nat.le_of_ble_eq_true rfl)) dX7_orders_32 ⟨Nat.le_of_ble_eq_true rfl, Nat.le_of_ble_eq_true rfl⟩) hP hD hS hA [2, 3] [0, 1, 4] [(h, .inr (6, [.ref h_now, .ref h_trial, .ref h_images, .ref h_imageThere, .ref h_teller, .ref h_ranks, .ref h_court, .ref h_sheets, .int 0, .int 0])), (h_now, .inr (5, [.ref n_weights, .ref n_kindOf, .ref n_light, .ref n_heavy, .ref n_seenBy, .ref n_seenCut, .ref n_seenFound, .int 2, .int 0, .int 0, .int 0, .int 0, .int 2, .int 0, .int 0])), (q_ways, .inl (k 0, 32, .inl (hsz)))] rfl rfl (by decide) (by decide) [0, 1, 3, 4, 2] (fun u_22 => [(h, .inr (6, [.ref h_now, .ref h_trial, .ref h_images, .ref h_imageThere, .ref h_teller, .ref h_ranks, .ref h_court, .ref h_sheets, .int 0, .int 0])), (h_now, .inr (5, [.ref n_weights, .ref n_kindOf, .ref n_light, .ref n_heavy, .ref n_seenBy, .ref n_seenCut, .ref n_seenFound, .int 2, .int 0, .int 0, .int 0, .int 0, .int 2, .int 0, .int 0])), (h_ranks, .inr (1, [.ref q_ahead, .ref q_ways, .int 2])), (q_ahead, .inl (k 0, 5, .inl (hsz))), (q_ways, .inl (k 0, 32, .inl (hsz)))]) (fun _ => rfl) (by decide) (fun r_20 u_22 H locs hw_21 hP hD hS => ?_)
      have hP : va_P D vwCl [(h, .inr (6, [.ref h_now, .ref h_trial, .ref h_images, .ref h_imageThere, .ref h_teller, .ref h_ranks, .ref h_court, .ref h_sheets, .int 0, .int 0])), (h_now, .inr (5, [.ref n_weights, .ref n_kindOf, .ref n_light, .ref n_heavy, .ref n_seenBy, .ref n_seenCut, .ref n_seenFound, .int 2, .int 0, .int 0, .int 0, .int 0, .int 2, .int 0, .int 0])), (h_ranks, .inr (1, [.ref q_ahead, .ref q_ways, .int 2])), (q_ahead, .inl (k 0, 5, .inl (hsz))), (q_ways, .inl (k 0, 32, .inl (hsz)))] H := hP
      have hD : va_D A [(h, .inr (6, [.ref h_now, .ref h_trial, .ref h_images, .ref h_imageThere, .ref h_teller, .ref h_ranks, .ref h_court, .ref h_sheets, .int 0, .int 0])), (h_now, .inr (5, [.ref n_weights, .ref n_kindOf, .ref n_light, .ref n_heavy, .ref n_seenBy, .ref n_seenCut, .ref n_seenFound, .int 2, .int 0, .int 0, .int 0, .int 0, .int 2, .int 0, .int 0])), (h_ranks, .inr (1, [.ref q_ahead, .ref q_ways, .int 2])), (q_ahead, .inl (k 0, 5, .inl (hsz))), (q_ways, .inl (k 0, 32, .inl (hsz)))] := hD
      refine hs_topi 3 (hw_21.trans (by first | rfl | decide +kernel | rfl)) ?_
      exact hs_iret hx hb hr hlocks hK hP hD hS () [] rfl (by decide) dX7_orders_35 (by first | rfl | decide | (simp only [hsb_0, hsb_1] at c_4; simp [A_orders, c_4]; done) | (simp [A_orders, c_4]; done) | rfl)
  · subst c_4
    refine lv_aload_n hx hb dX7_orders_15 rfl (lv_at hl 0 rfl) ?_
    refine va_get (D := D) (ci := 6) (v := .ref h_ranks) (C := RX7) (T := TX7) (N := 10) hx hb hts hiX7 hown hK hP 0 rfl rfl 5 (by decide) fl37 (fun _ h9 => h9) rfl dX7_orders_16 ?_
    refine hs_ci (va_runV (As := []) (rest := []) ⟨hx, hb, hml, hown, hts⟩ (c_howMany_n l D k _ h_ranks q_ahead q_ways hsz) (cwV 0 hts gX7_orders_X2_howMany rfl rfl rfl (by decide +kernel) ⟨Nat.le_of_ble_eq_true rfl, Nat.le_of_ble_eq_true rfl⟩) (hs_preV hK hN (hs_subP (w := [(h_ranks, .inr (1, [.ref q_ahead, .ref q_ways, .int 2])), (q_ahead, .inl (k 0, 5, .inl (hsz))), (q_ways, .inl (k 0, 32, .inl (hsz)))]) hP [2, 3, 4] rfl) (hD.sub (ws' := [(h_ranks, .inr (1, [.ref q_ahead, .ref q_ways, .int 2])), (q_ahead, .inl (k 0, 5, .inl (hsz))), (q_ways, .inl (k 0, 32, .inl (hsz)))]) [2, 3, 4] (by decide) rfl) (ci := 1) (q0 := 0) rfl rfl) rfl rfl hl.1 rfl (lv_room (Nat.le_of_ble_eq_true rfl)) dX7_orders_19 ⟨Nat.le_of_ble_eq_true rfl, Nat.le_of_ble_eq_true rfl⟩) hP hD hS hA [2, 3, 4] [0, 1] [(h, .inr (6, [.ref h_now, .ref h_trial, .ref h_images, .ref h_imageThere, .ref h_teller, .ref h_ranks, .ref h_court, .ref h_sheets, .int 0, .int 0])), (h_now, .inr (5, [.ref n_weights, .ref n_kindOf, .ref n_light, .ref n_heavy, .ref n_seenBy, .ref n_seenCut, .ref n_seenFound, .int 2, .int 0, .int 0, .int 0, .int 0, .int 2, .int 0, .int 0]))] rfl rfl (by decide) (by decide) [0, 1, 2, 3, 4] (fun u_25 => [(h, .inr (6, [.ref h_now, .ref h_trial, .ref h_images, .ref h_imageThere, .ref h_teller, .ref h_ranks, .ref h_court, .ref h_sheets, .int 0, .int 0])), (h_now, .inr (5, [.ref n_weights, .ref n_kindOf, .ref n_light, .ref n_heavy, .ref n_seenBy, .ref n_seenCut, .ref n_seenFound, .int 2, .int 0, .int 0, .int 0, .int 0, .int 2, .int 0, .int 0])), (h_ranks, .inr (1, [.ref q_ahead, .ref q_ways, .int 2])), (q_ahead, .inl (k 0, 5, .inl (hsz))), (q_ways, .inl (k 0, 32, .inl (upd (upd (upd (upd hsz 0 1) 1 1) 2 1) 3 2)))]) (fun _ => rfl) (by decide) (fun r_23 u_25 H locs hw_24 hP hD hS => ?_)
    have hP : va_P D vwCl [(h, .inr (6, [.ref h_now, .ref h_trial, .ref h_images, .ref h_imageThere, .ref h_teller, .ref h_ranks, .ref h_court, .ref h_sheets, .int 0, .int 0])), (h_now, .inr (5, [.ref n_weights, .ref n_kindOf, .ref n_light, .ref n_heavy, .ref n_seenBy, .ref n_seenCut, .ref n_seenFound, .int 2, .int 0, .int 0, .int 0, .int 0, .int 2, .int 0, .int 0])), (h_ranks, .inr (1, [.ref q_ahead, .ref q_ways, .int 2])), (q_ahead, .inl (k 0, 5, .inl (hsz))), (q_ways, .inl (k 0, 32, .inl (upd (upd (upd (upd hsz 0 1) 1 1) 2 1) 3 2)))] H := hP
    have hD : va_D A [(h, .inr (6, [.ref h_now, .ref h_trial, .ref h_images, .ref h_imageThere, .ref h_teller, .ref h_ranks, .ref h_court, .ref h_sheets, .int 0, .int 0])), (h_now, .inr (5, [.ref n_weights, .ref n_kindOf, .ref n_light, .ref n_heavy, .ref n_seenBy, .ref n_seenCut, .ref n_seenFound, .int 2, .int 0, .int 0, .int 0, .int 0, .int 2, .int 0, .int 0])), (h_ranks, .inr (1, [.ref q_ahead, .ref q_ways, .int 2])), (q_ahead, .inl (k 0, 5, .inl (hsz))), (q_ways, .inl (k 0, 32, .inl (upd (upd (upd (upd hsz 0 1) 1 1) 2 1) 3 2)))] := hD
    refine hs_topi 2 (hw_24.trans (by first | rfl | decide +kernel | rfl)) ?_
    exact hs_iret hx hb hr hlocks hK hP hD hS () [] rfl (by decide) dX7_orders_22 (by first | rfl | decide | (simp [A_orders]; done) | rfl)

set_option maxHeartbeats 4000000 in
set_option maxRecDepth 100000 in
theorem p_next (l : Launch) (D : va_G) (k : Nat → ClassId) (sz : Nat) (h : Nat) (h_now : Nat) (h_trial : Nat) (h_images : Nat) (h_imageThere : Nat) (h_teller : Nat) (h_ranks : Nat) (h_court : Nat) (h_sheets : Nat) (n_weights : Nat) (n_kindOf : Nat) (n_light : Nat) (n_heavy : Nat) (n_seenBy : Nat) (n_seenCut : Nat) (n_seenFound : Nat) (q_ahead : Nat) (q_ways : Nat) (what : Int32)  : MI l yX7_next wsX7_next ({ frames := 3, cells := 0, slots := 0, locals := 71 }) D k [.ref h, .int what] [(h, .inr (6, [.ref h_now, .ref h_trial, .ref h_images, .ref h_imageThere, .ref h_teller, .ref h_ranks, .ref h_court, .ref h_sheets, .int 0, .int 0])), (h_now, .inr (5, [.ref n_weights, .ref n_kindOf, .ref n_light, .ref n_heavy, .ref n_seenBy, .ref n_seenCut, .ref n_seenFound, .int 2, .int 0, .int 0, .int 0, .int 0, .int 2, .int 0, .int 0])), (h_ranks, .inr (1, [.ref q_ahead, .ref q_ways, .int 0])), (q_ahead, .inl (k 0, 5, .inl (hsz))), (q_ways, .inl (k 0, 32, .inl (hsz)))] sz (fun (r : Int32) (u : Unit) => r = A_next what) (fun (u : Unit) => []) := by
  refine Met.ofW (cc := cX7_next) (maxL := 7) (ret := (some .int)) (by decide) rfl ?_
  intro p e s m args below meth c s₁ B hml hv
  obtain ⟨rfl, hsz, hP, hK, hD0, hN⟩ := hv
  have hx := B.exec
  have hb := B.bytes
  have hr := B.returns
  have hlocks := B.notSynchronized
  have hts := atoms_spec (ws := wsX7_next) B.pre
  have hown : s.vm.findClass RX7 = some m.cls := findClass_of_methodNamed B.named
  have hiX6 : ∀ w ∈ u_ws RX6 TX6 15, w ∈ wsX7_next := by decide +kernel
  have hiX7 : ∀ w ∈ u_ws RX7 TX7 10, w ∈ wsX7_next := by decide +kernel
  have fl37 := hts (.fieldLink RX7 37 "HalfScales" "ranks" "LHalfScales$Ranks;") (by decide +kernel)
  have fl10 := hts (.fieldLink RX7 10 "HalfScales" "now" "LHalfScales$Thing;") (by decide +kernel)
  have fl108 := hts (.fieldLink RX7 108 "HalfScales$Thing" "halfCount" "I") (by decide +kernel)
  have mm227 := hts (.methodLink RX7 227 Lib.Math.max.name) (by decide +kernel)
  have msmax := hts (.static Lib.Math.max.name) (by decide +kernel)
  have mi := hts (.initialized "java/lang/Math") (by decide +kernel)
  have mcmax := hts (.code Lib.Math.max.name Lib.Math.max.code 2 (some .int)) (by decide +kernel)
  subst hsz
  have hD := hD0.self (sz := s.heap.size)
  generalize hAe : va_A [(h, .inr (6, [.ref h_now, .ref h_trial, .ref h_images, .ref h_imageThere, .ref h_teller, .ref h_ranks, .ref h_court, .ref h_sheets, .int 0, .int 0])), (h_now, .inr (5, [.ref n_weights, .ref n_kindOf, .ref n_light, .ref n_heavy, .ref n_seenBy, .ref n_seenCut, .ref n_seenFound, .int 2, .int 0, .int 0, .int 0, .int 0, .int 2, .int 0, .int 0])), (h_ranks, .inr (1, [.ref q_ahead, .ref q_ways, .int 0])), (q_ahead, .inl (k 0, 5, .inl (hsz))), (q_ways, .inl (k 0, 32, .inl (hsz)))] s.heap.size = A at hD ⊢
  have hA : ∀ q : Nat, s.heap.size ≤ q → A q := fun q h => by rw [← hAe]; exact Or.inr h
  have hS : va_S A s.heap s.heap [] := va_S.rf
  have hl := lv_entry ([.ref h, .int what]) (n := 7) (Nat.le_of_ble_eq_true rfl)
  rw [lg_entry_eq]
  generalize (lg_sl ([.ref h, .int what]) ++ List.replicate (7 - (lg_sl ([.ref h, .int what])).length) Slot.unset).toArray = ls at hl ⊢
  have hl : lv_has ls 7 [(0, .ref h), (1, .int what)] := hl
  have hP : va_P D vwCl [(h, .inr (6, [.ref h_now, .ref h_trial, .ref h_images, .ref h_imageThere, .ref h_teller, .ref h_ranks, .ref h_court, .ref h_sheets, .int 0, .int 0])), (h_now, .inr (5, [.ref n_weights, .ref n_kindOf, .ref n_light, .ref n_heavy, .ref n_seenBy, .ref n_seenCut, .ref n_seenFound, .int 2, .int 0, .int 0, .int 0, .int 0, .int 2, .int 0, .int 0])), (h_ranks, .inr (1, [.ref q_ahead, .ref q_ways, .int 0])), (q_ahead, .inl (k 0, 5, .inl (hsz))), (q_ways, .inl (k 0, 32, .inl (hsz)))] s.heap := hP
  refine lv_iload_n hx hb dX7_next_0 rfl (lv_at hl 1 rfl) ?_
  refine lv_iconst (v := 0) hx hb dX7_next_1 (by decide) ?_
  refine lv_iconst (v := 1) hx hb dX7_next_2 (by decide) ?_
  refine hs_pi (va_runS (As := [.int what, .int 0, .int 1]) (rest := []) ⟨hx, hb, hml, hown, hts⟩ (c_within l D k _ what 0 1) (va_cwS 3 hts gX7_next_X7_within rfl rfl rfl (by decide +kernel) ⟨Nat.le_of_ble_eq_true rfl, Nat.le_of_ble_eq_true rfl⟩) (hs_preS hK hN (hs_subP (w := []) hP [] rfl) (hD.sub (ws' := []) [] (by decide) rfl)) rfl rfl hl.1 rfl (lv_room (Nat.le_of_ble_eq_true rfl)) dX7_next_3 ⟨Nat.le_of_ble_eq_true rfl, Nat.le_of_ble_eq_true rfl⟩) hP hD hS hA (fun r_1 u_3 H locs hw_2 hP hS => ?_)
  refine hs_topi (hsb (hsin what 0 1)) hw_2 ?_
  refine lv_if_ne (tgt := 11) hx hb dX7_next_6 (by decide) (fun c_4 => ?_) (fun c_4 => ?_)
  · rcases hs_v01 (hs_nb c_4) with rfl | rfl
    · refine lv_aload_n hx hb dX7_next_11 rfl (lv_at hl 0 rfl) ?_
      refine va_get (D := D) (ci := 6) (v := .ref h_ranks) (C := RX7) (T := TX7) (N := 10) hx hb hts hiX7 hown hK hP 0 rfl rfl 5 (by decide) fl37 (fun _ h9 => h9) rfl dX7_next_12 ?_
      refine lv_aload_n hx hb dX7_next_15 rfl (lv_at hl 0 rfl) ?_
      refine va_get (D := D) (ci := 6) (v := .ref h_now) (C := RX7) (T := TX7) (N := 10) hx hb hts hiX7 hown hK hP 0 rfl rfl 0 (by decide) fl10 (fun _ h9 => h9) rfl dX7_next_16 ?_
      refine hs_cv (va_runV (As := [.ref h_now]) (rest := []) ⟨hx, hb, hml, hown, hts⟩ (c_learn0 l D k _ h_ranks q_ahead q_ways 0 h_now n_weights n_kindOf n_light n_heavy n_seenBy n_seenCut n_seenFound) (cwV 1 hts gX7_next_X2_learn rfl rfl rfl (by decide +kernel) ⟨Nat.le_of_ble_eq_true rfl, Nat.le_of_ble_eq_true rfl⟩) (hs_preV hK hN (hs_subP (w := [(h_ranks, .inr (1, [.ref q_ahead, .ref q_ways, .int 0])), (q_ahead, .inl (k 0, 5, .inl (hsz))), (h_now, .inr (5, [.ref n_weights, .ref n_kindOf, .ref n_light, .ref n_heavy, .ref n_seenBy, .ref n_seenCut, .ref n_seenFound, .int 2, .int 0, .int 0, .int 0, .int 0, .int 2, .int 0, .int 0]))]) hP [2, 3, 1] rfl) (hD.sub (ws' := [(h_ranks, .inr (1, [.ref q_ahead, .ref q_ways, .int 0])), (q_ahead, .inl (k 0, 5, .inl (hsz))), (h_now, .inr (5, [.ref n_weights, .ref n_kindOf, .ref n_light, .ref n_heavy, .ref n_seenBy, .ref n_seenCut, .ref n_seenFound, .int 2, .int 0, .int 0, .int 0, .int 0, .int 2, .int 0, .int 0]))]) [2, 3, 1] (by decide) rfl) (ci := 1) (q0 := 0) rfl rfl) rfl rfl hl.1 rfl (lv_room (Nat.le_of_ble_eq_true rfl)) dX7_next_19 ⟨Nat.le_of_ble_eq_true rfl, Nat.le_of_ble_eq_true rfl⟩) hP hD hS hA [2, 3, 1] [0, 4] [(h, .inr (6, [.ref h_now, .ref h_trial, .ref h_images, .ref h_imageThere, .ref h_teller, .ref h_ranks, .ref h_court, .ref h_sheets, .int 0, .int 0])), (q_ways, .inl (k 0, 32, .inl (hsz)))] rfl rfl (by decide) (by decide) [0, 4, 2, 3, 1] (fun u_7 => [(h, .inr (6, [.ref h_now, .ref h_trial, .ref h_images, .ref h_imageThere, .ref h_teller, .ref h_ranks, .ref h_court, .ref h_sheets, .int 0, .int 0])), (h_now, .inr (5, [.ref n_weights, .ref n_kindOf, .ref n_light, .ref n_heavy, .ref n_seenBy, .ref n_seenCut, .ref n_seenFound, .int 2, .int 0, .int 0, .int 0, .int 0, .int 2, .int 0, .int 0])), (h_ranks, .inr (1, [.ref q_ahead, .ref q_ways, .int 2])), (q_ahead, .inl (k 0, 5, .inl (hsz))), (q_ways, .inl (k 0, 32, .inl (hsz)))]) (fun _ => rfl) (by decide) (fun u_7 H locs hw_6 hP hD hS => ?_)
      have hP : va_P D vwCl [(h, .inr (6, [.ref h_now, .ref h_trial, .ref h_images, .ref h_imageThere, .ref h_teller, .ref h_ranks, .ref h_court, .ref h_sheets, .int 0, .int 0])), (h_now, .inr (5, [.ref n_weights, .ref n_kindOf, .ref n_light, .ref n_heavy, .ref n_seenBy, .ref n_seenCut, .ref n_seenFound, .int 2, .int 0, .int 0, .int 0, .int 0, .int 2, .int 0, .int 0])), (h_ranks, .inr (1, [.ref q_ahead, .ref q_ways, .int 2])), (q_ahead, .inl (k 0, 5, .inl (hsz))), (q_ways, .inl (k 0, 32, .inl (hsz)))] H := hP
      have hD : va_D A [(h, .inr (6, [.ref h_now, .ref h_trial, .ref h_images, .ref h_imageThere, .ref h_teller, .ref h_ranks, .ref h_court, .ref h_sheets, .int 0, .int 0])), (h_now, .inr (5, [.ref n_weights, .ref n_kindOf, .ref n_light, .ref n_heavy, .ref n_seenBy, .ref n_seenCut, .ref n_seenFound, .int 2, .int 0, .int 0, .int 0, .int 0, .int 2, .int 0, .int 0])), (h_ranks, .inr (1, [.ref q_ahead, .ref q_ways, .int 2])), (q_ahead, .inl (k 0, 5, .inl (hsz))), (q_ways, .inl (k 0, 32, .inl (hsz)))] := hD
      refine lv_aload_n hx hb dX7_next_22 rfl (lv_at hl 0 rfl) ?_
      refine va_get (D := D) (ci := 6) (v := .ref h_ranks) (C := RX7) (T := TX7) (N := 10) hx hb hts hiX7 hown hK hP 0 rfl rfl 5 (by decide) fl37 (fun _ h9 => h9) rfl dX7_next_23 ?_
      refine hs_ci (va_runV (As := []) (rest := []) ⟨hx, hb, hml, hown, hts⟩ (c_howMany_n l D k _ h_ranks q_ahead q_ways hsz) (cwV 0 hts gX7_next_X2_howMany rfl rfl rfl (by decide +kernel) ⟨Nat.le_of_ble_eq_true rfl, Nat.le_of_ble_eq_true rfl⟩) (hs_preV hK hN (hs_subP (w := [(h_ranks, .inr (1, [.ref q_ahead, .ref q_ways, .int 2])), (q_ahead, .inl (k 0, 5, .inl (hsz))), (q_ways, .inl (k 0, 32, .inl (hsz)))]) hP [2, 3, 4] rfl) (hD.sub (ws' := [(h_ranks, .inr (1, [.ref q_ahead, .ref q_ways, .int 2])), (q_ahead, .inl (k 0, 5, .inl (hsz))), (q_ways, .inl (k 0, 32, .inl (hsz)))]) [2, 3, 4] (by decide) rfl) (ci := 1) (q0 := 0) rfl rfl) rfl rfl hl.1 rfl (lv_room (Nat.le_of_ble_eq_true rfl)) dX7_next_26 ⟨Nat.le_of_ble_eq_true rfl, Nat.le_of_ble_eq_true rfl⟩) hP hD hS hA [2, 3, 4] [0, 1] [(h, .inr (6, [.ref h_now, .ref h_trial, .ref h_images, .ref h_imageThere, .ref h_teller, .ref h_ranks, .ref h_court, .ref h_sheets, .int 0, .int 0])), (h_now, .inr (5, [.ref n_weights, .ref n_kindOf, .ref n_light, .ref n_heavy, .ref n_seenBy, .ref n_seenCut, .ref n_seenFound, .int 2, .int 0, .int 0, .int 0, .int 0, .int 2, .int 0, .int 0]))] rfl rfl (by decide) (by decide) [0, 1, 2, 3, 4] (fun u_10 => [(h, .inr (6, [.ref h_now, .ref h_trial, .ref h_images, .ref h_imageThere, .ref h_teller, .ref h_ranks, .ref h_court, .ref h_sheets, .int 0, .int 0])), (h_now, .inr (5, [.ref n_weights, .ref n_kindOf, .ref n_light, .ref n_heavy, .ref n_seenBy, .ref n_seenCut, .ref n_seenFound, .int 2, .int 0, .int 0, .int 0, .int 0, .int 2, .int 0, .int 0])), (h_ranks, .inr (1, [.ref q_ahead, .ref q_ways, .int 2])), (q_ahead, .inl (k 0, 5, .inl (hsz))), (q_ways, .inl (k 0, 32, .inl (upd (upd (upd (upd hsz 0 1) 1 1) 2 1) 3 2)))]) (fun _ => rfl) (by decide) (fun r_8 u_10 H locs hw_9 hP hD hS => ?_)
      have hP : va_P D vwCl [(h, .inr (6, [.ref h_now, .ref h_trial, .ref h_images, .ref h_imageThere, .ref h_teller, .ref h_ranks, .ref h_court, .ref h_sheets, .int 0, .int 0])), (h_now, .inr (5, [.ref n_weights, .ref n_kindOf, .ref n_light, .ref n_heavy, .ref n_seenBy, .ref n_seenCut, .ref n_seenFound, .int 2, .int 0, .int 0, .int 0, .int 0, .int 2, .int 0, .int 0])), (h_ranks, .inr (1, [.ref q_ahead, .ref q_ways, .int 2])), (q_ahead, .inl (k 0, 5, .inl (hsz))), (q_ways, .inl (k 0, 32, .inl (upd (upd (upd (upd hsz 0 1) 1 1) 2 1) 3 2)))] H := hP
      have hD : va_D A [(h, .inr (6, [.ref h_now, .ref h_trial, .ref h_images, .ref h_imageThere, .ref h_teller, .ref h_ranks, .ref h_court, .ref h_sheets, .int 0, .int 0])), (h_now, .inr (5, [.ref n_weights, .ref n_kindOf, .ref n_light, .ref n_heavy, .ref n_seenBy, .ref n_seenCut, .ref n_seenFound, .int 2, .int 0, .int 0, .int 0, .int 0, .int 2, .int 0, .int 0])), (h_ranks, .inr (1, [.ref q_ahead, .ref q_ways, .int 2])), (q_ahead, .inl (k 0, 5, .inl (hsz))), (q_ways, .inl (k 0, 32, .inl (upd (upd (upd (upd hsz 0 1) 1 1) 2 1) 3 2)))] := hD
      refine hs_topi 2 (hw_9.trans (by first | rfl | decide +kernel | rfl)) ?_
      refine lv_istore_n (lv' := [(2, .int 2), (0, .ref h), (1, .int 0)]) hx hb dX7_next_29 rfl hl (by decide) rfl (fun ls hl => ?_)
      refine lv_bipush (v := (-4)) hx hb dX7_next_30 (by decide) ?_
      refine lv_istore_n (lv' := [(3, .int (-4)), (2, .int 2), (0, .ref h), (1, .int 0)]) hx hb dX7_next_32 rfl hl (by decide) rfl (fun ls hl => ?_)
      refine lv_iconst (v := 0) hx hb dX7_next_33 (by decide) ?_
      refine lv_istore (lv' := [(4, .int 0), (3, .int (-4)), (2, .int 2), (0, .ref h), (1, .int 0)]) hx hb dX7_next_34 hl (by decide) rfl (fun ls hl => ?_)
      refine lv_iload hx hb dX7_next_36 (lv_at hl 0 rfl) ?_
      refine lv_aload_n hx hb dX7_next_38 rfl (lv_at hl 3 rfl) ?_
      refine va_get (D := D) (ci := 6) (v := .ref h_now) (C := RX7) (T := TX7) (N := 10) hx hb hts hiX7 hown hK hP 0 rfl rfl 0 (by decide) fl10 (fun _ h9 => h9) rfl dX7_next_39 ?_
      refine va_get (D := D) (ci := 5) (v := .int 2) (C := RX6) (T := TX6) (N := 15) hx hb hts hiX6 hown hK hP 1 rfl rfl 12 (by decide) fl108 (fun _ h9 => h9) rfl dX7_next_42 ?_
      refine lv_icmp_ge (tgt := 123) hx hb dX7_next_45 (by decide) (fun c_11 => absurd c_11 (by decide)) (fun c_11 => ?_)
      refine lv_iload hx hb dX7_next_48 (lv_at hl 0 rfl) ?_
      refine lv_iconst (v := 1) hx hb dX7_next_50 (by decide) ?_
      refine lv_iadd hx hb dX7_next_51 ?_
      refine hs_topi 1 (by first | rfl | decide +kernel) ?_
      refine lv_istore (lv' := [(5, .int 1), (4, .int 0), (3, .int (-4)), (2, .int 2), (0, .ref h), (1, .int 0)]) hx hb dX7_next_52 hl (by decide) rfl (fun ls hl => ?_)
      refine lv_iload hx hb dX7_next_54 (lv_at hl 0 rfl) ?_
      refine lv_aload_n hx hb dX7_next_56 rfl (lv_at hl 4 rfl) ?_
      refine va_get (D := D) (ci := 6) (v := .ref h_now) (C := RX7) (T := TX7) (N := 10) hx hb hts hiX7 hown hK hP 0 rfl rfl 0 (by decide) fl10 (fun _ h9 => h9) rfl dX7_next_57 ?_
      refine va_get (D := D) (ci := 5) (v := .int 2) (C := RX6) (T := TX6) (N := 15) hx hb hts hiX6 hown hK hP 1 rfl rfl 12 (by decide) fl108 (fun _ h9 => h9) rfl dX7_next_60 ?_
      refine lv_icmp_ge (tgt := 117) hx hb dX7_next_63 (by decide) (fun c_12 => absurd c_12 (by decide)) (fun c_12 => ?_)
      refine lv_aload_n hx hb dX7_next_66 rfl (lv_at hl 4 rfl) ?_
      refine va_get (D := D) (ci := 6) (v := .ref h_ranks) (C := RX7) (T := TX7) (N := 10) hx hb hts hiX7 hown hK hP 0 rfl rfl 5 (by decide) fl37 (fun _ h9 => h9) rfl dX7_next_67 ?_
      refine lv_iload hx hb dX7_next_70 (lv_at hl 1 rfl) ?_
      refine lv_iload hx hb dX7_next_72 (lv_at hl 0 rfl) ?_
      refine hs_ci (va_runV (As := [.int 0, .int 1]) (rest := []) ⟨hx, hb, hml, hown, hts⟩ (c_howManyWith_01 l D k _ h_ranks q_ahead q_ways (upd (upd (upd (upd hsz 0 1) 1 1) 2 1) 3 2)) (cwV 2 hts gX7_next_X2_howManyWith rfl rfl rfl (by decide +kernel) ⟨Nat.le_of_ble_eq_true rfl, Nat.le_of_ble_eq_true rfl⟩) (hs_preV hK hN (hs_subP (w := [(h_ranks, .inr (1, [.ref q_ahead, .ref q_ways, .int 2])), (q_ahead, .inl (k 0, 5, .inl (hsz))), (q_ways, .inl (k 0, 32, .inl (upd (upd (upd (upd hsz 0 1) 1 1) 2 1) 3 2)))]) hP [2, 3, 4] rfl) (hD.sub (ws' := [(h_ranks, .inr (1, [.ref q_ahead, .ref q_ways, .int 2])), (q_ahead, .inl (k 0, 5, .inl (hsz))), (q_ways, .inl (k 0, 32, .inl (upd (upd (upd (upd hsz 0 1) 1 1) 2 1) 3 2)))]) [2, 3, 4] (by decide) rfl) (ci := 1) (q0 := 0) rfl rfl) rfl rfl hl.1 rfl (lv_room (Nat.le_of_ble_eq_true rfl)) dX7_next_74 ⟨Nat.le_of_ble_eq_true rfl, Nat.le_of_ble_eq_true rfl⟩) hP hD hS hA [2, 3, 4] [0, 1] [(h, .inr (6, [.ref h_now, .ref h_trial, .ref h_images, .ref h_imageThere, .ref h_teller, .ref h_ranks, .ref h_court, .ref h_sheets, .int 0, .int 0])), (h_now, .inr (5, [.ref n_weights, .ref n_kindOf, .ref n_light, .ref n_heavy, .ref n_seenBy, .ref n_seenCut, .ref n_seenFound, .int 2, .int 0, .int 0, .int 0, .int 0, .int 2, .int 0, .int 0]))] rfl rfl (by decide) (by decide) [0, 1, 2, 3, 4] (fun u_15 => [(h, .inr (6, [.ref h_now, .ref h_trial, .ref h_images, .ref h_imageThere, .ref h_teller, .ref h_ranks, .ref h_court, .ref h_sheets, .int 0, .int 0])), (h_now, .inr (5, [.ref n_weights, .ref n_kindOf, .ref n_light, .ref n_heavy, .ref n_seenBy, .ref n_seenCut, .ref n_seenFound, .int 2, .int 0, .int 0, .int 0, .int 0, .int 2, .int 0, .int 0])), (h_ranks, .inr (1, [.ref q_ahead, .ref q_ways, .int 2])), (q_ahead, .inl (k 0, 5, .inl (hsz))), (q_ways, .inl (k 0, 32, .inl (upd (upd (upd (upd (upd (upd (upd (upd hsz 0 1) 1 1) 2 1) 3 2) 0 1) 1 1) 2 0) 3 1)))]) (fun _ => rfl) (by decide) (fun r_13 u_15 H locs hw_14 hP hD hS => ?_)
      have hP : va_P D vwCl [(h, .inr (6, [.ref h_now, .ref h_trial, .ref h_images, .ref h_imageThere, .ref h_teller, .ref h_ranks, .ref h_court, .ref h_sheets, .int 0, .int 0])), (h_now, .inr (5, [.ref n_weights, .ref n_kindOf, .ref n_light, .ref n_heavy, .ref n_seenBy, .ref n_seenCut, .ref n_seenFound, .int 2, .int 0, .int 0, .int 0, .int 0, .int 2, .int 0, .int 0])), (h_ranks, .inr (1, [.ref q_ahead, .ref q_ways, .int 2])), (q_ahead, .inl (k 0, 5, .inl (hsz))), (q_ways, .inl (k 0, 32, .inl (upd (upd (upd (upd (upd (upd (upd (upd hsz 0 1) 1 1) 2 1) 3 2) 0 1) 1 1) 2 0) 3 1)))] H := hP
      have hD : va_D A [(h, .inr (6, [.ref h_now, .ref h_trial, .ref h_images, .ref h_imageThere, .ref h_teller, .ref h_ranks, .ref h_court, .ref h_sheets, .int 0, .int 0])), (h_now, .inr (5, [.ref n_weights, .ref n_kindOf, .ref n_light, .ref n_heavy, .ref n_seenBy, .ref n_seenCut, .ref n_seenFound, .int 2, .int 0, .int 0, .int 0, .int 0, .int 2, .int 0, .int 0])), (h_ranks, .inr (1, [.ref q_ahead, .ref q_ways, .int 2])), (q_ahead, .inl (k 0, 5, .inl (hsz))), (q_ways, .inl (k 0, 32, .inl (upd (upd (upd (upd (upd (upd (upd (upd hsz 0 1) 1 1) 2 1) 3 2) 0 1) 1 1) 2 0) 3 1)))] := hD
      refine hs_topi 1 (hw_14.trans (by first | rfl | decide +kernel | rfl)) ?_
      refine lv_aload_n hx hb dX7_next_77 rfl (lv_at hl 4 rfl) ?_
      refine va_get (D := D) (ci := 6) (v := .ref h_ranks) (C := RX7) (T := TX7) (N := 10) hx hb hts hiX7 hown hK hP 0 rfl rfl 5 (by decide) fl37 (fun _ h9 => h9) rfl dX7_next_78 ?_
      refine lv_iload hx hb dX7_next_81 (lv_at hl 0 rfl) ?_
      refine lv_iload hx hb dX7_next_83 (lv_at hl 1 rfl) ?_
      refine hs_ci (va_runV (As := [.int 1, .int 0]) (rest := [.int 1]) ⟨hx, hb, hml, hown, hts⟩ (c_howManyWith_10 l D k _ h_ranks q_ahead q_ways (upd (upd (upd (upd (upd (upd (upd (upd hsz 0 1) 1 1) 2 1) 3 2) 0 1) 1 1) 2 0) 3 1)) (cwV 2 hts gX7_next_X2_howManyWith rfl rfl rfl (by decide +kernel) ⟨Nat.le_of_ble_eq_true rfl, Nat.le_of_ble_eq_true rfl⟩) (hs_preV hK hN (hs_subP (w := [(h_ranks, .inr (1, [.ref q_ahead, .ref q_ways, .int 2])), (q_ahead, .inl (k 0, 5, .inl (hsz))), (q_ways, .inl (k 0, 32, .inl (upd (upd (upd (upd (upd (upd (upd (upd hsz 0 1) 1 1) 2 1) 3 2) 0 1) 1 1) 2 0) 3 1)))]) hP [2, 3, 4] rfl) (hD.sub (ws' := [(h_ranks, .inr (1, [.ref q_ahead, .ref q_ways, .int 2])), (q_ahead, .inl (k 0, 5, .inl (hsz))), (q_ways, .inl (k 0, 32, .inl (upd (upd (upd (upd (upd (upd (upd (upd hsz 0 1) 1 1) 2 1) 3 2) 0 1) 1 1) 2 0) 3 1)))]) [2, 3, 4] (by decide) rfl) (ci := 1) (q0 := 0) rfl rfl) rfl rfl hl.1 rfl (lv_room (Nat.le_of_ble_eq_true rfl)) dX7_next_85 ⟨Nat.le_of_ble_eq_true rfl, Nat.le_of_ble_eq_true rfl⟩) hP hD hS hA [2, 3, 4] [0, 1] [(h, .inr (6, [.ref h_now, .ref h_trial, .ref h_images, .ref h_imageThere, .ref h_teller, .ref h_ranks, .ref h_court, .ref h_sheets, .int 0, .int 0])), (h_now, .inr (5, [.ref n_weights, .ref n_kindOf, .ref n_light, .ref n_heavy, .ref n_seenBy, .ref n_seenCut, .ref n_seenFound, .int 2, .int 0, .int 0, .int 0, .int 0, .int 2, .int 0, .int 0]))] rfl rfl (by decide) (by decide) [0, 1, 2, 3, 4] (fun u_18 => [(h, .inr (6, [.ref h_now, .ref h_trial, .ref h_images, .ref h_imageThere, .ref h_teller, .ref h_ranks, .ref h_court, .ref h_sheets, .int 0, .int 0])), (h_now, .inr (5, [.ref n_weights, .ref n_kindOf, .ref n_light, .ref n_heavy, .ref n_seenBy, .ref n_seenCut, .ref n_seenFound, .int 2, .int 0, .int 0, .int 0, .int 0, .int 2, .int 0, .int 0])), (h_ranks, .inr (1, [.ref q_ahead, .ref q_ways, .int 2])), (q_ahead, .inl (k 0, 5, .inl (hsz))), (q_ways, .inl (k 0, 32, .inl (upd (upd (upd (upd (upd (upd (upd (upd (upd (upd (upd (upd hsz 0 1) 1 1) 2 1) 3 2) 0 1) 1 1) 2 0) 3 1) 0 1) 1 0) 2 1) 3 1)))]) (fun _ => rfl) (by decide) (fun r_16 u_18 H locs hw_17 hP hD hS => ?_)
      have hP : va_P D vwCl [(h, .inr (6, [.ref h_now, .ref h_trial, .ref h_images, .ref h_imageThere, .ref h_teller, .ref h_ranks, .ref h_court, .ref h_sheets, .int 0, .int 0])), (h_now, .inr (5, [.ref n_weights, .ref n_kindOf, .ref n_light, .ref n_heavy, .ref n_seenBy, .ref n_seenCut, .ref n_seenFound, .int 2, .int 0, .int 0, .int 0, .int 0, .int 2, .int 0, .int 0])), (h_ranks, .inr (1, [.ref q_ahead, .ref q_ways, .int 2])), (q_ahead, .inl (k 0, 5, .inl (hsz))), (q_ways, .inl (k 0, 32, .inl (upd (upd (upd (upd (upd (upd (upd (upd (upd (upd (upd (upd hsz 0 1) 1 1) 2 1) 3 2) 0 1) 1 1) 2 0) 3 1) 0 1) 1 0) 2 1) 3 1)))] H := hP
      have hD : va_D A [(h, .inr (6, [.ref h_now, .ref h_trial, .ref h_images, .ref h_imageThere, .ref h_teller, .ref h_ranks, .ref h_court, .ref h_sheets, .int 0, .int 0])), (h_now, .inr (5, [.ref n_weights, .ref n_kindOf, .ref n_light, .ref n_heavy, .ref n_seenBy, .ref n_seenCut, .ref n_seenFound, .int 2, .int 0, .int 0, .int 0, .int 0, .int 2, .int 0, .int 0])), (h_ranks, .inr (1, [.ref q_ahead, .ref q_ways, .int 2])), (q_ahead, .inl (k 0, 5, .inl (hsz))), (q_ways, .inl (k 0, 32, .inl (upd (upd (upd (upd (upd (upd (upd (upd (upd (upd (upd (upd hsz 0 1) 1 1) 2 1) 3 2) 0 1) 1 1) 2 0) 3 1) 0 1) 1 0) 2 1) 3 1)))] := hD
      refine hs_topi 1 (hw_17.trans (by first | rfl | decide +kernel | rfl)) ?_
      refine va_mmax hx hb (hml.trans hl.1.symm) hown mm227 msmax mi mcmax (Nat.le_of_ble_eq_true rfl) (Nat.le_of_ble_eq_true rfl) (Nat.zero_le _) (Nat.zero_le _) dX7_next_88 ?_
      refine hs_topi 1 (by first | rfl | decide +kernel) ?_
      refine lv_istore (lv' := [(6, .int 1), (5, .int 1), (4, .int 0), (3, .int (-4)), (2, .int 2), (0, .ref h), (1, .int 0)]) hx hb dX7_next_91 hl (by decide) rfl (fun ls hl => ?_)
      refine lv_iload hx hb dX7_next_93 (lv_at hl 0 rfl) ?_
      refine lv_iload_n hx hb dX7_next_95 rfl (lv_at hl 4 rfl) ?_
      refine lv_icmp_ge (tgt := 111) hx hb dX7_next_96 (by decide) (fun c_19 => absurd c_19 (by decide)) (fun c_19 => ?_)
      refine lv_iload hx hb dX7_next_99 (lv_at hl 0 rfl) ?_
      refine lv_istore_n (lv' := [(2, .int 1), (6, .int 1), (5, .int 1), (4, .int 0), (3, .int (-4)), (0, .ref h), (1, .int 0)]) hx hb dX7_next_101 rfl hl (by decide) rfl (fun ls hl => ?_)
      refine lv_bipush (v := 10) hx hb dX7_next_102 (by decide) ?_
      refine lv_iload hx hb dX7_next_104 (lv_at hl 3 rfl) ?_
      refine lv_imul hx hb dX7_next_106 ?_
      refine hs_topi 0 (by first | rfl | decide +kernel) ?_
      refine lv_iload hx hb dX7_next_107 (lv_at hl 2 rfl) ?_
      refine lv_iadd hx hb dX7_next_109 ?_
      refine hs_topi 1 (by first | rfl | decide +kernel) ?_
      refine lv_istore_n (lv' := [(3, .int 1), (2, .int 1), (6, .int 1), (5, .int 1), (4, .int 0), (0, .ref h), (1, .int 0)]) hx hb dX7_next_110 rfl hl (by decide) rfl (fun ls hl => ?_)
      refine lv_iinc (v := 2) (lv' := [(5, .int 2), (3, .int 1), (2, .int 1), (6, .int 1), (4, .int 0), (0, .ref h), (1, .int 0)]) hx hb dX7_next_111 hl (k := 3) rfl (by decide) (by decide) rfl (fun ls hl => ?_)
      refine lv_goto (tgt := 54) hx hb dX7_next_114 (by decide) ?_
      refine lv_iload hx hb dX7_next_54 (lv_at hl 0 rfl) ?_
      refine lv_aload_n hx hb dX7_next_56 rfl (lv_at hl 5 rfl) ?_
      refine va_get (D := D) (ci := 6) (v := .ref h_now) (C := RX7) (T := TX7) (N := 10) hx hb hts hiX7 hown hK hP 0 rfl rfl 0 (by decide) fl10 (fun _ h9 => h9) rfl dX7_next_57 ?_
      refine va_get (D := D) (ci := 5) (v := .int 2) (C := RX6) (T := TX6) (N := 15) hx hb hts hiX6 hown hK hP 1 rfl rfl 12 (by decide) fl108 (fun _ h9 => h9) rfl dX7_next_60 ?_
      refine lv_icmp_ge (tgt := 117) hx hb dX7_next_63 (by decide) (fun c_20 => ?_) (fun c_20 => absurd c_20 (by decide))
      refine lv_iinc (v := 1) (lv' := [(4, .int 1), (5, .int 2), (3, .int 1), (2, .int 1), (6, .int 1), (0, .ref h), (1, .int 0)]) hx hb dX7_next_117 hl (k := 4) rfl (by decide) (by decide) rfl (fun ls hl => ?_)
      refine lv_goto (tgt := 36) hx hb dX7_next_120 (by decide) ?_
      refine lv_iload hx hb dX7_next_36 (lv_at hl 0 rfl) ?_
      refine lv_aload_n hx hb dX7_next_38 rfl (lv_at hl 5 rfl) ?_
      refine va_get (D := D) (ci := 6) (v := .ref h_now) (C := RX7) (T := TX7) (N := 10) hx hb hts hiX7 hown hK hP 0 rfl rfl 0 (by decide) fl10 (fun _ h9 => h9) rfl dX7_next_39 ?_
      refine va_get (D := D) (ci := 5) (v := .int 2) (C := RX6) (T := TX6) (N := 15) hx hb hts hiX6 hown hK hP 1 rfl rfl 12 (by decide) fl108 (fun _ h9 => h9) rfl dX7_next_42 ?_
      refine lv_icmp_ge (tgt := 123) hx hb dX7_next_45 (by decide) (fun c_21 => absurd c_21 (by decide)) (fun c_21 => ?_)
      refine lv_iload hx hb dX7_next_48 (lv_at hl 0 rfl) ?_
      refine lv_iconst (v := 1) hx hb dX7_next_50 (by decide) ?_
      refine lv_iadd hx hb dX7_next_51 ?_
      refine hs_topi 2 (by first | rfl | decide +kernel) ?_
      refine lv_istore (lv' := [(5, .int 2), (4, .int 1), (3, .int 1), (2, .int 1), (6, .int 1), (0, .ref h), (1, .int 0)]) hx hb dX7_next_52 hl (by decide) rfl (fun ls hl => ?_)
      refine lv_iload hx hb dX7_next_54 (lv_at hl 0 rfl) ?_
      refine lv_aload_n hx hb dX7_next_56 rfl (lv_at hl 5 rfl) ?_
      refine va_get (D := D) (ci := 6) (v := .ref h_now) (C := RX7) (T := TX7) (N := 10) hx hb hts hiX7 hown hK hP 0 rfl rfl 0 (by decide) fl10 (fun _ h9 => h9) rfl dX7_next_57 ?_
      refine va_get (D := D) (ci := 5) (v := .int 2) (C := RX6) (T := TX6) (N := 15) hx hb hts hiX6 hown hK hP 1 rfl rfl 12 (by decide) fl108 (fun _ h9 => h9) rfl dX7_next_60 ?_
      refine lv_icmp_ge (tgt := 117) hx hb dX7_next_63 (by decide) (fun c_22 => ?_) (fun c_22 => absurd c_22 (by decide))
      refine lv_iinc (v := 2) (lv' := [(4, .int 2), (5, .int 2), (3, .int 1), (2, .int 1), (6, .int 1), (0, .ref h), (1, .int 0)]) hx hb dX7_next_117 hl (k := 1) rfl (by decide) (by decide) rfl (fun ls hl => ?_)
      refine lv_goto (tgt := 36) hx hb dX7_next_120 (by decide) ?_
      refine lv_iload hx hb dX7_next_36 (lv_at hl 0 rfl) ?_
      refine lv_aload_n hx hb dX7_next_38 rfl (lv_at hl 5 rfl) ?_
      refine va_get (D := D) (ci := 6) (v := .ref h_now) (C := RX7) (T := TX7) (N := 10) hx hb hts hiX7 hown hK hP 0 rfl rfl 0 (by decide) fl10 (fun _ h9 => h9) rfl dX7_next_39 ?_
      refine va_get (D := D) (ci := 5) (v := .int 2) (C := RX6) (T := TX6) (N := 15) hx hb hts hiX6 hown hK hP 1 rfl rfl 12 (by decide) fl108 (fun _ h9 => h9) rfl dX7_next_42 ?_
      refine lv_icmp_ge (tgt := 123) hx hb dX7_next_45 (by decide) (fun c_23 => ?_) (fun c_23 => absurd c_23 (by decide))
      refine lv_iload_n hx hb dX7_next_123 rfl (lv_at hl 6 rfl) ?_
      refine lv_if_eq (tgt := 133) hx hb dX7_next_124 (by decide) (fun c_24 => ?_) (fun c_24 => absurd c_24 (by decide))
      refine lv_iload_n hx hb dX7_next_133 rfl (lv_at hl 2 rfl) ?_
      refine lv_goto (tgt := 138) hx hb dX7_next_134 (by decide) ?_
      exact hs_iret hx hb hr hlocks hK hP hD hS () [] rfl (by decide) dX7_next_138 (by first | rfl | decide | (simp only [hsb_0, hsb_1] at c_4 c_11 c_12 c_19 c_20 c_21 c_22 c_23 c_24; simp [A_next, c_4, c_11, c_12, c_19, c_20, c_21, c_22, c_23, c_24]; done) | (simp [A_next, c_4, c_11, c_12, c_19, c_20, c_21, c_22, c_23, c_24]; done))
    · refine lv_aload_n hx hb dX7_next_11 rfl (lv_at hl 0 rfl) ?_
      refine va_get (D := D) (ci := 6) (v := .ref h_ranks) (C := RX7) (T := TX7) (N := 10) hx hb hts hiX7 hown hK hP 0 rfl rfl 5 (by decide) fl37 (fun _ h9 => h9) rfl dX7_next_12 ?_
      refine lv_aload_n hx hb dX7_next_15 rfl (lv_at hl 0 rfl) ?_
      refine va_get (D := D) (ci := 6) (v := .ref h_now) (C := RX7) (T := TX7) (N := 10) hx hb hts hiX7 hown hK hP 0 rfl rfl 0 (by decide) fl10 (fun _ h9 => h9) rfl dX7_next_16 ?_
      refine hs_cv (va_runV (As := [.ref h_now]) (rest := []) ⟨hx, hb, hml, hown, hts⟩ (c_learn0 l D k _ h_ranks q_ahead q_ways 0 h_now n_weights n_kindOf n_light n_heavy n_seenBy n_seenCut n_seenFound) (cwV 1 hts gX7_next_X2_learn rfl rfl rfl (by decide +kernel) ⟨Nat.le_of_ble_eq_true rfl, Nat.le_of_ble_eq_true rfl⟩) (hs_preV hK hN (hs_subP (w := [(h_ranks, .inr (1, [.ref q_ahead, .ref q_ways, .int 0])), (q_ahead, .inl (k 0, 5, .inl (hsz))), (h_now, .inr (5, [.ref n_weights, .ref n_kindOf, .ref n_light, .ref n_heavy, .ref n_seenBy, .ref n_seenCut, .ref n_seenFound, .int 2, .int 0, .int 0, .int 0, .int 0, .int 2, .int 0, .int 0]))]) hP [2, 3, 1] rfl) (hD.sub (ws' := [(h_ranks, .inr (1, [.ref q_ahead, .ref q_ways, .int 0])), (q_ahead, .inl (k 0, 5, .inl (hsz))), (h_now, .inr (5, [.ref n_weights, .ref n_kindOf, .ref n_light, .ref n_heavy, .ref n_seenBy, .ref n_seenCut, .ref n_seenFound, .int 2, .int 0, .int 0, .int 0, .int 0, .int 2, .int 0, .int 0]))]) [2, 3, 1] (by decide) rfl) (ci := 1) (q0 := 0) rfl rfl) rfl rfl hl.1 rfl (lv_room (Nat.le_of_ble_eq_true rfl)) dX7_next_19 ⟨Nat.le_of_ble_eq_true rfl, Nat.le_of_ble_eq_true rfl⟩) hP hD hS hA [2, 3, 1] [0, 4] [(h, .inr (6, [.ref h_now, .ref h_trial, .ref h_images, .ref h_imageThere, .ref h_teller, .ref h_ranks, .ref h_court, .ref h_sheets, .int 0, .int 0])), (q_ways, .inl (k 0, 32, .inl (hsz)))] rfl rfl (by decide) (by decide) [0, 4, 2, 3, 1] (fun u_27 => [(h, .inr (6, [.ref h_now, .ref h_trial, .ref h_images, .ref h_imageThere, .ref h_teller, .ref h_ranks, .ref h_court, .ref h_sheets, .int 0, .int 0])), (h_now, .inr (5, [.ref n_weights, .ref n_kindOf, .ref n_light, .ref n_heavy, .ref n_seenBy, .ref n_seenCut, .ref n_seenFound, .int 2, .int 0, .int 0, .int 0, .int 0, .int 2, .int 0, .int 0])), (h_ranks, .inr (1, [.ref q_ahead, .ref q_ways, .int 2])), (q_ahead, .inl (k 0, 5, .inl (hsz))), (q_ways, .inl (k 0, 32, .inl (hsz)))]) (fun _ => rfl) (by decide) (fun u_27 H locs hw_26 hP hD hS => ?_)
      have hP : va_P D vwCl [(h, .inr (6, [.ref h_now, .ref h_trial, .ref h_images, .ref h_imageThere, .ref h_teller, .ref h_ranks, .ref h_court, .ref h_sheets, .int 0, .int 0])), (h_now, .inr (5, [.ref n_weights, .ref n_kindOf, .ref n_light, .ref n_heavy, .ref n_seenBy, .ref n_seenCut, .ref n_seenFound, .int 2, .int 0, .int 0, .int 0, .int 0, .int 2, .int 0, .int 0])), (h_ranks, .inr (1, [.ref q_ahead, .ref q_ways, .int 2])), (q_ahead, .inl (k 0, 5, .inl (hsz))), (q_ways, .inl (k 0, 32, .inl (hsz)))] H := hP
      have hD : va_D A [(h, .inr (6, [.ref h_now, .ref h_trial, .ref h_images, .ref h_imageThere, .ref h_teller, .ref h_ranks, .ref h_court, .ref h_sheets, .int 0, .int 0])), (h_now, .inr (5, [.ref n_weights, .ref n_kindOf, .ref n_light, .ref n_heavy, .ref n_seenBy, .ref n_seenCut, .ref n_seenFound, .int 2, .int 0, .int 0, .int 0, .int 0, .int 2, .int 0, .int 0])), (h_ranks, .inr (1, [.ref q_ahead, .ref q_ways, .int 2])), (q_ahead, .inl (k 0, 5, .inl (hsz))), (q_ways, .inl (k 0, 32, .inl (hsz)))] := hD
      refine lv_aload_n hx hb dX7_next_22 rfl (lv_at hl 0 rfl) ?_
      refine va_get (D := D) (ci := 6) (v := .ref h_ranks) (C := RX7) (T := TX7) (N := 10) hx hb hts hiX7 hown hK hP 0 rfl rfl 5 (by decide) fl37 (fun _ h9 => h9) rfl dX7_next_23 ?_
      refine hs_ci (va_runV (As := []) (rest := []) ⟨hx, hb, hml, hown, hts⟩ (c_howMany_n l D k _ h_ranks q_ahead q_ways hsz) (cwV 0 hts gX7_next_X2_howMany rfl rfl rfl (by decide +kernel) ⟨Nat.le_of_ble_eq_true rfl, Nat.le_of_ble_eq_true rfl⟩) (hs_preV hK hN (hs_subP (w := [(h_ranks, .inr (1, [.ref q_ahead, .ref q_ways, .int 2])), (q_ahead, .inl (k 0, 5, .inl (hsz))), (q_ways, .inl (k 0, 32, .inl (hsz)))]) hP [2, 3, 4] rfl) (hD.sub (ws' := [(h_ranks, .inr (1, [.ref q_ahead, .ref q_ways, .int 2])), (q_ahead, .inl (k 0, 5, .inl (hsz))), (q_ways, .inl (k 0, 32, .inl (hsz)))]) [2, 3, 4] (by decide) rfl) (ci := 1) (q0 := 0) rfl rfl) rfl rfl hl.1 rfl (lv_room (Nat.le_of_ble_eq_true rfl)) dX7_next_26 ⟨Nat.le_of_ble_eq_true rfl, Nat.le_of_ble_eq_true rfl⟩) hP hD hS hA [2, 3, 4] [0, 1] [(h, .inr (6, [.ref h_now, .ref h_trial, .ref h_images, .ref h_imageThere, .ref h_teller, .ref h_ranks, .ref h_court, .ref h_sheets, .int 0, .int 0])), (h_now, .inr (5, [.ref n_weights, .ref n_kindOf, .ref n_light, .ref n_heavy, .ref n_seenBy, .ref n_seenCut, .ref n_seenFound, .int 2, .int 0, .int 0, .int 0, .int 0, .int 2, .int 0, .int 0]))] rfl rfl (by decide) (by decide) [0, 1, 2, 3, 4] (fun u_30 => [(h, .inr (6, [.ref h_now, .ref h_trial, .ref h_images, .ref h_imageThere, .ref h_teller, .ref h_ranks, .ref h_court, .ref h_sheets, .int 0, .int 0])), (h_now, .inr (5, [.ref n_weights, .ref n_kindOf, .ref n_light, .ref n_heavy, .ref n_seenBy, .ref n_seenCut, .ref n_seenFound, .int 2, .int 0, .int 0, .int 0, .int 0, .int 2, .int 0, .int 0])), (h_ranks, .inr (1, [.ref q_ahead, .ref q_ways, .int 2])), (q_ahead, .inl (k 0, 5, .inl (hsz))), (q_ways, .inl (k 0, 32, .inl (upd (upd (upd (upd hsz 0 1) 1 1) 2 1) 3 2)))]) (fun _ => rfl) (by decide) (fun r_28 u_30 H locs hw_29 hP hD hS => ?_)
      have hP : va_P D vwCl [(h, .inr (6, [.ref h_now, .ref h_trial, .ref h_images, .ref h_imageThere, .ref h_teller, .ref h_ranks, .ref h_court, .ref h_sheets, .int 0, .int 0])), (h_now, .inr (5, [.ref n_weights, .ref n_kindOf, .ref n_light, .ref n_heavy, .ref n_seenBy, .ref n_seenCut, .ref n_seenFound, .int 2, .int 0, .int 0, .int 0, .int 0, .int 2, .int 0, .int 0])), (h_ranks, .inr (1, [.ref q_ahead, .ref q_ways, .int 2])), (q_ahead, .inl (k 0, 5, .inl (hsz))), (q_ways, .inl (k 0, 32, .inl (upd (upd (upd (upd hsz 0 1) 1 1) 2 1) 3 2)))] H := hP
      have hD : va_D A [(h, .inr (6, [.ref h_now, .ref h_trial, .ref h_images, .ref h_imageThere, .ref h_teller, .ref h_ranks, .ref h_court, .ref h_sheets, .int 0, .int 0])), (h_now, .inr (5, [.ref n_weights, .ref n_kindOf, .ref n_light, .ref n_heavy, .ref n_seenBy, .ref n_seenCut, .ref n_seenFound, .int 2, .int 0, .int 0, .int 0, .int 0, .int 2, .int 0, .int 0])), (h_ranks, .inr (1, [.ref q_ahead, .ref q_ways, .int 2])), (q_ahead, .inl (k 0, 5, .inl (hsz))), (q_ways, .inl (k 0, 32, .inl (upd (upd (upd (upd hsz 0 1) 1 1) 2 1) 3 2)))] := hD
      refine hs_topi 2 (hw_29.trans (by first | rfl | decide +kernel | rfl)) ?_
      refine lv_istore_n (lv' := [(2, .int 2), (0, .ref h), (1, .int 1)]) hx hb dX7_next_29 rfl hl (by decide) rfl (fun ls hl => ?_)
      refine lv_bipush (v := (-4)) hx hb dX7_next_30 (by decide) ?_
      refine lv_istore_n (lv' := [(3, .int (-4)), (2, .int 2), (0, .ref h), (1, .int 1)]) hx hb dX7_next_32 rfl hl (by decide) rfl (fun ls hl => ?_)
      refine lv_iconst (v := 0) hx hb dX7_next_33 (by decide) ?_
      refine lv_istore (lv' := [(4, .int 0), (3, .int (-4)), (2, .int 2), (0, .ref h), (1, .int 1)]) hx hb dX7_next_34 hl (by decide) rfl (fun ls hl => ?_)
      refine lv_iload hx hb dX7_next_36 (lv_at hl 0 rfl) ?_
      refine lv_aload_n hx hb dX7_next_38 rfl (lv_at hl 3 rfl) ?_
      refine va_get (D := D) (ci := 6) (v := .ref h_now) (C := RX7) (T := TX7) (N := 10) hx hb hts hiX7 hown hK hP 0 rfl rfl 0 (by decide) fl10 (fun _ h9 => h9) rfl dX7_next_39 ?_
      refine va_get (D := D) (ci := 5) (v := .int 2) (C := RX6) (T := TX6) (N := 15) hx hb hts hiX6 hown hK hP 1 rfl rfl 12 (by decide) fl108 (fun _ h9 => h9) rfl dX7_next_42 ?_
      refine lv_icmp_ge (tgt := 123) hx hb dX7_next_45 (by decide) (fun c_31 => absurd c_31 (by decide)) (fun c_31 => ?_)
      refine lv_iload hx hb dX7_next_48 (lv_at hl 0 rfl) ?_
      refine lv_iconst (v := 1) hx hb dX7_next_50 (by decide) ?_
      refine lv_iadd hx hb dX7_next_51 ?_
      refine hs_topi 1 (by first | rfl | decide +kernel) ?_
      refine lv_istore (lv' := [(5, .int 1), (4, .int 0), (3, .int (-4)), (2, .int 2), (0, .ref h), (1, .int 1)]) hx hb dX7_next_52 hl (by decide) rfl (fun ls hl => ?_)
      refine lv_iload hx hb dX7_next_54 (lv_at hl 0 rfl) ?_
      refine lv_aload_n hx hb dX7_next_56 rfl (lv_at hl 4 rfl) ?_
      refine va_get (D := D) (ci := 6) (v := .ref h_now) (C := RX7) (T := TX7) (N := 10) hx hb hts hiX7 hown hK hP 0 rfl rfl 0 (by decide) fl10 (fun _ h9 => h9) rfl dX7_next_57 ?_
      refine va_get (D := D) (ci := 5) (v := .int 2) (C := RX6) (T := TX6) (N := 15) hx hb hts hiX6 hown hK hP 1 rfl rfl 12 (by decide) fl108 (fun _ h9 => h9) rfl dX7_next_60 ?_
      refine lv_icmp_ge (tgt := 117) hx hb dX7_next_63 (by decide) (fun c_32 => absurd c_32 (by decide)) (fun c_32 => ?_)
      refine lv_aload_n hx hb dX7_next_66 rfl (lv_at hl 4 rfl) ?_
      refine va_get (D := D) (ci := 6) (v := .ref h_ranks) (C := RX7) (T := TX7) (N := 10) hx hb hts hiX7 hown hK hP 0 rfl rfl 5 (by decide) fl37 (fun _ h9 => h9) rfl dX7_next_67 ?_
      refine lv_iload hx hb dX7_next_70 (lv_at hl 1 rfl) ?_
      refine lv_iload hx hb dX7_next_72 (lv_at hl 0 rfl) ?_
      refine hs_ci (va_runV (As := [.int 0, .int 1]) (rest := []) ⟨hx, hb, hml, hown, hts⟩ (c_howManyWith_01 l D k _ h_ranks q_ahead q_ways (upd (upd (upd (upd hsz 0 1) 1 1) 2 1) 3 2)) (cwV 2 hts gX7_next_X2_howManyWith rfl rfl rfl (by decide +kernel) ⟨Nat.le_of_ble_eq_true rfl, Nat.le_of_ble_eq_true rfl⟩) (hs_preV hK hN (hs_subP (w := [(h_ranks, .inr (1, [.ref q_ahead, .ref q_ways, .int 2])), (q_ahead, .inl (k 0, 5, .inl (hsz))), (q_ways, .inl (k 0, 32, .inl (upd (upd (upd (upd hsz 0 1) 1 1) 2 1) 3 2)))]) hP [2, 3, 4] rfl) (hD.sub (ws' := [(h_ranks, .inr (1, [.ref q_ahead, .ref q_ways, .int 2])), (q_ahead, .inl (k 0, 5, .inl (hsz))), (q_ways, .inl (k 0, 32, .inl (upd (upd (upd (upd hsz 0 1) 1 1) 2 1) 3 2)))]) [2, 3, 4] (by decide) rfl) (ci := 1) (q0 := 0) rfl rfl) rfl rfl hl.1 rfl (lv_room (Nat.le_of_ble_eq_true rfl)) dX7_next_74 ⟨Nat.le_of_ble_eq_true rfl, Nat.le_of_ble_eq_true rfl⟩) hP hD hS hA [2, 3, 4] [0, 1] [(h, .inr (6, [.ref h_now, .ref h_trial, .ref h_images, .ref h_imageThere, .ref h_teller, .ref h_ranks, .ref h_court, .ref h_sheets, .int 0, .int 0])), (h_now, .inr (5, [.ref n_weights, .ref n_kindOf, .ref n_light, .ref n_heavy, .ref n_seenBy, .ref n_seenCut, .ref n_seenFound, .int 2, .int 0, .int 0, .int 0, .int 0, .int 2, .int 0, .int 0]))] rfl rfl (by decide) (by decide) [0, 1, 2, 3, 4] (fun u_35 => [(h, .inr (6, [.ref h_now, .ref h_trial, .ref h_images, .ref h_imageThere, .ref h_teller, .ref h_ranks, .ref h_court, .ref h_sheets, .int 0, .int 0])), (h_now, .inr (5, [.ref n_weights, .ref n_kindOf, .ref n_light, .ref n_heavy, .ref n_seenBy, .ref n_seenCut, .ref n_seenFound, .int 2, .int 0, .int 0, .int 0, .int 0, .int 2, .int 0, .int 0])), (h_ranks, .inr (1, [.ref q_ahead, .ref q_ways, .int 2])), (q_ahead, .inl (k 0, 5, .inl (hsz))), (q_ways, .inl (k 0, 32, .inl (upd (upd (upd (upd (upd (upd (upd (upd hsz 0 1) 1 1) 2 1) 3 2) 0 1) 1 1) 2 0) 3 1)))]) (fun _ => rfl) (by decide) (fun r_33 u_35 H locs hw_34 hP hD hS => ?_)
      have hP : va_P D vwCl [(h, .inr (6, [.ref h_now, .ref h_trial, .ref h_images, .ref h_imageThere, .ref h_teller, .ref h_ranks, .ref h_court, .ref h_sheets, .int 0, .int 0])), (h_now, .inr (5, [.ref n_weights, .ref n_kindOf, .ref n_light, .ref n_heavy, .ref n_seenBy, .ref n_seenCut, .ref n_seenFound, .int 2, .int 0, .int 0, .int 0, .int 0, .int 2, .int 0, .int 0])), (h_ranks, .inr (1, [.ref q_ahead, .ref q_ways, .int 2])), (q_ahead, .inl (k 0, 5, .inl (hsz))), (q_ways, .inl (k 0, 32, .inl (upd (upd (upd (upd (upd (upd (upd (upd hsz 0 1) 1 1) 2 1) 3 2) 0 1) 1 1) 2 0) 3 1)))] H := hP
      have hD : va_D A [(h, .inr (6, [.ref h_now, .ref h_trial, .ref h_images, .ref h_imageThere, .ref h_teller, .ref h_ranks, .ref h_court, .ref h_sheets, .int 0, .int 0])), (h_now, .inr (5, [.ref n_weights, .ref n_kindOf, .ref n_light, .ref n_heavy, .ref n_seenBy, .ref n_seenCut, .ref n_seenFound, .int 2, .int 0, .int 0, .int 0, .int 0, .int 2, .int 0, .int 0])), (h_ranks, .inr (1, [.ref q_ahead, .ref q_ways, .int 2])), (q_ahead, .inl (k 0, 5, .inl (hsz))), (q_ways, .inl (k 0, 32, .inl (upd (upd (upd (upd (upd (upd (upd (upd hsz 0 1) 1 1) 2 1) 3 2) 0 1) 1 1) 2 0) 3 1)))] := hD
      refine hs_topi 1 (hw_34.trans (by first | rfl | decide +kernel | rfl)) ?_
      refine lv_aload_n hx hb dX7_next_77 rfl (lv_at hl 4 rfl) ?_
      refine va_get (D := D) (ci := 6) (v := .ref h_ranks) (C := RX7) (T := TX7) (N := 10) hx hb hts hiX7 hown hK hP 0 rfl rfl 5 (by decide) fl37 (fun _ h9 => h9) rfl dX7_next_78 ?_
      refine lv_iload hx hb dX7_next_81 (lv_at hl 0 rfl) ?_
      refine lv_iload hx hb dX7_next_83 (lv_at hl 1 rfl) ?_
      refine hs_ci (va_runV (As := [.int 1, .int 0]) (rest := [.int 1]) ⟨hx, hb, hml, hown, hts⟩ (c_howManyWith_10 l D k _ h_ranks q_ahead q_ways (upd (upd (upd (upd (upd (upd (upd (upd hsz 0 1) 1 1) 2 1) 3 2) 0 1) 1 1) 2 0) 3 1)) (cwV 2 hts gX7_next_X2_howManyWith rfl rfl rfl (by decide +kernel) ⟨Nat.le_of_ble_eq_true rfl, Nat.le_of_ble_eq_true rfl⟩) (hs_preV hK hN (hs_subP (w := [(h_ranks, .inr (1, [.ref q_ahead, .ref q_ways, .int 2])), (q_ahead, .inl (k 0, 5, .inl (hsz))), (q_ways, .inl (k 0, 32, .inl (upd (upd (upd (upd (upd (upd (upd (upd hsz 0 1) 1 1) 2 1) 3 2) 0 1) 1 1) 2 0) 3 1)))]) hP [2, 3, 4] rfl) (hD.sub (ws' := [(h_ranks, .inr (1, [.ref q_ahead, .ref q_ways, .int 2])), (q_ahead, .inl (k 0, 5, .inl (hsz))), (q_ways, .inl (k 0, 32, .inl (upd (upd (upd (upd (upd (upd (upd (upd hsz 0 1) 1 1) 2 1) 3 2) 0 1) 1 1) 2 0) 3 1)))]) [2, 3, 4] (by decide) rfl) (ci := 1) (q0 := 0) rfl rfl) rfl rfl hl.1 rfl (lv_room (Nat.le_of_ble_eq_true rfl)) dX7_next_85 ⟨Nat.le_of_ble_eq_true rfl, Nat.le_of_ble_eq_true rfl⟩) hP hD hS hA [2, 3, 4] [0, 1] [(h, .inr (6, [.ref h_now, .ref h_trial, .ref h_images, .ref h_imageThere, .ref h_teller, .ref h_ranks, .ref h_court, .ref h_sheets, .int 0, .int 0])), (h_now, .inr (5, [.ref n_weights, .ref n_kindOf, .ref n_light, .ref n_heavy, .ref n_seenBy, .ref n_seenCut, .ref n_seenFound, .int 2, .int 0, .int 0, .int 0, .int 0, .int 2, .int 0, .int 0]))] rfl rfl (by decide) (by decide) [0, 1, 2, 3, 4] (fun u_38 => [(h, .inr (6, [.ref h_now, .ref h_trial, .ref h_images, .ref h_imageThere, .ref h_teller, .ref h_ranks, .ref h_court, .ref h_sheets, .int 0, .int 0])), (h_now, .inr (5, [.ref n_weights, .ref n_kindOf, .ref n_light, .ref n_heavy, .ref n_seenBy, .ref n_seenCut, .ref n_seenFound, .int 2, .int 0, .int 0, .int 0, .int 0, .int 2, .int 0, .int 0])), (h_ranks, .inr (1, [.ref q_ahead, .ref q_ways, .int 2])), (q_ahead, .inl (k 0, 5, .inl (hsz))), (q_ways, .inl (k 0, 32, .inl (upd (upd (upd (upd (upd (upd (upd (upd (upd (upd (upd (upd hsz 0 1) 1 1) 2 1) 3 2) 0 1) 1 1) 2 0) 3 1) 0 1) 1 0) 2 1) 3 1)))]) (fun _ => rfl) (by decide) (fun r_36 u_38 H locs hw_37 hP hD hS => ?_)
      have hP : va_P D vwCl [(h, .inr (6, [.ref h_now, .ref h_trial, .ref h_images, .ref h_imageThere, .ref h_teller, .ref h_ranks, .ref h_court, .ref h_sheets, .int 0, .int 0])), (h_now, .inr (5, [.ref n_weights, .ref n_kindOf, .ref n_light, .ref n_heavy, .ref n_seenBy, .ref n_seenCut, .ref n_seenFound, .int 2, .int 0, .int 0, .int 0, .int 0, .int 2, .int 0, .int 0])), (h_ranks, .inr (1, [.ref q_ahead, .ref q_ways, .int 2])), (q_ahead, .inl (k 0, 5, .inl (hsz))), (q_ways, .inl (k 0, 32, .inl (upd (upd (upd (upd (upd (upd (upd (upd (upd (upd (upd (upd hsz 0 1) 1 1) 2 1) 3 2) 0 1) 1 1) 2 0) 3 1) 0 1) 1 0) 2 1) 3 1)))] H := hP
      have hD : va_D A [(h, .inr (6, [.ref h_now, .ref h_trial, .ref h_images, .ref h_imageThere, .ref h_teller, .ref h_ranks, .ref h_court, .ref h_sheets, .int 0, .int 0])), (h_now, .inr (5, [.ref n_weights, .ref n_kindOf, .ref n_light, .ref n_heavy, .ref n_seenBy, .ref n_seenCut, .ref n_seenFound, .int 2, .int 0, .int 0, .int 0, .int 0, .int 2, .int 0, .int 0])), (h_ranks, .inr (1, [.ref q_ahead, .ref q_ways, .int 2])), (q_ahead, .inl (k 0, 5, .inl (hsz))), (q_ways, .inl (k 0, 32, .inl (upd (upd (upd (upd (upd (upd (upd (upd (upd (upd (upd (upd hsz 0 1) 1 1) 2 1) 3 2) 0 1) 1 1) 2 0) 3 1) 0 1) 1 0) 2 1) 3 1)))] := hD
      refine hs_topi 1 (hw_37.trans (by first | rfl | decide +kernel | rfl)) ?_
      refine va_mmax hx hb (hml.trans hl.1.symm) hown mm227 msmax mi mcmax (Nat.le_of_ble_eq_true rfl) (Nat.le_of_ble_eq_true rfl) (Nat.zero_le _) (Nat.zero_le _) dX7_next_88 ?_
      refine hs_topi 1 (by first | rfl | decide +kernel) ?_
      refine lv_istore (lv' := [(6, .int 1), (5, .int 1), (4, .int 0), (3, .int (-4)), (2, .int 2), (0, .ref h), (1, .int 1)]) hx hb dX7_next_91 hl (by decide) rfl (fun ls hl => ?_)
      refine lv_iload hx hb dX7_next_93 (lv_at hl 0 rfl) ?_
      refine lv_iload_n hx hb dX7_next_95 rfl (lv_at hl 4 rfl) ?_
      refine lv_icmp_ge (tgt := 111) hx hb dX7_next_96 (by decide) (fun c_39 => absurd c_39 (by decide)) (fun c_39 => ?_)
      refine lv_iload hx hb dX7_next_99 (lv_at hl 0 rfl) ?_
      refine lv_istore_n (lv' := [(2, .int 1), (6, .int 1), (5, .int 1), (4, .int 0), (3, .int (-4)), (0, .ref h), (1, .int 1)]) hx hb dX7_next_101 rfl hl (by decide) rfl (fun ls hl => ?_)
      refine lv_bipush (v := 10) hx hb dX7_next_102 (by decide) ?_
      refine lv_iload hx hb dX7_next_104 (lv_at hl 3 rfl) ?_
      refine lv_imul hx hb dX7_next_106 ?_
      refine hs_topi 0 (by first | rfl | decide +kernel) ?_
      refine lv_iload hx hb dX7_next_107 (lv_at hl 2 rfl) ?_
      refine lv_iadd hx hb dX7_next_109 ?_
      refine hs_topi 1 (by first | rfl | decide +kernel) ?_
      refine lv_istore_n (lv' := [(3, .int 1), (2, .int 1), (6, .int 1), (5, .int 1), (4, .int 0), (0, .ref h), (1, .int 1)]) hx hb dX7_next_110 rfl hl (by decide) rfl (fun ls hl => ?_)
      refine lv_iinc (v := 2) (lv' := [(5, .int 2), (3, .int 1), (2, .int 1), (6, .int 1), (4, .int 0), (0, .ref h), (1, .int 1)]) hx hb dX7_next_111 hl (k := 3) rfl (by decide) (by decide) rfl (fun ls hl => ?_)
      refine lv_goto (tgt := 54) hx hb dX7_next_114 (by decide) ?_
      refine lv_iload hx hb dX7_next_54 (lv_at hl 0 rfl) ?_
      refine lv_aload_n hx hb dX7_next_56 rfl (lv_at hl 5 rfl) ?_
      refine va_get (D := D) (ci := 6) (v := .ref h_now) (C := RX7) (T := TX7) (N := 10) hx hb hts hiX7 hown hK hP 0 rfl rfl 0 (by decide) fl10 (fun _ h9 => h9) rfl dX7_next_57 ?_
      refine va_get (D := D) (ci := 5) (v := .int 2) (C := RX6) (T := TX6) (N := 15) hx hb hts hiX6 hown hK hP 1 rfl rfl 12 (by decide) fl108 (fun _ h9 => h9) rfl dX7_next_60 ?_
      refine lv_icmp_ge (tgt := 117) hx hb dX7_next_63 (by decide) (fun c_40 => ?_) (fun c_40 => absurd c_40 (by decide))
      refine lv_iinc (v := 1) (lv' := [(4, .int 1), (5, .int 2), (3, .int 1), (2, .int 1), (6, .int 1), (0, .ref h), (1, .int 1)]) hx hb dX7_next_117 hl (k := 4) rfl (by decide) (by decide) rfl (fun ls hl => ?_)
      refine lv_goto (tgt := 36) hx hb dX7_next_120 (by decide) ?_
      refine lv_iload hx hb dX7_next_36 (lv_at hl 0 rfl) ?_
      refine lv_aload_n hx hb dX7_next_38 rfl (lv_at hl 5 rfl) ?_
      refine va_get (D := D) (ci := 6) (v := .ref h_now) (C := RX7) (T := TX7) (N := 10) hx hb hts hiX7 hown hK hP 0 rfl rfl 0 (by decide) fl10 (fun _ h9 => h9) rfl dX7_next_39 ?_
      refine va_get (D := D) (ci := 5) (v := .int 2) (C := RX6) (T := TX6) (N := 15) hx hb hts hiX6 hown hK hP 1 rfl rfl 12 (by decide) fl108 (fun _ h9 => h9) rfl dX7_next_42 ?_
      refine lv_icmp_ge (tgt := 123) hx hb dX7_next_45 (by decide) (fun c_41 => absurd c_41 (by decide)) (fun c_41 => ?_)
      refine lv_iload hx hb dX7_next_48 (lv_at hl 0 rfl) ?_
      refine lv_iconst (v := 1) hx hb dX7_next_50 (by decide) ?_
      refine lv_iadd hx hb dX7_next_51 ?_
      refine hs_topi 2 (by first | rfl | decide +kernel) ?_
      refine lv_istore (lv' := [(5, .int 2), (4, .int 1), (3, .int 1), (2, .int 1), (6, .int 1), (0, .ref h), (1, .int 1)]) hx hb dX7_next_52 hl (by decide) rfl (fun ls hl => ?_)
      refine lv_iload hx hb dX7_next_54 (lv_at hl 0 rfl) ?_
      refine lv_aload_n hx hb dX7_next_56 rfl (lv_at hl 5 rfl) ?_
      refine va_get (D := D) (ci := 6) (v := .ref h_now) (C := RX7) (T := TX7) (N := 10) hx hb hts hiX7 hown hK hP 0 rfl rfl 0 (by decide) fl10 (fun _ h9 => h9) rfl dX7_next_57 ?_
      refine va_get (D := D) (ci := 5) (v := .int 2) (C := RX6) (T := TX6) (N := 15) hx hb hts hiX6 hown hK hP 1 rfl rfl 12 (by decide) fl108 (fun _ h9 => h9) rfl dX7_next_60 ?_
      refine lv_icmp_ge (tgt := 117) hx hb dX7_next_63 (by decide) (fun c_42 => ?_) (fun c_42 => absurd c_42 (by decide))
      refine lv_iinc (v := 2) (lv' := [(4, .int 2), (5, .int 2), (3, .int 1), (2, .int 1), (6, .int 1), (0, .ref h), (1, .int 1)]) hx hb dX7_next_117 hl (k := 1) rfl (by decide) (by decide) rfl (fun ls hl => ?_)
      refine lv_goto (tgt := 36) hx hb dX7_next_120 (by decide) ?_
      refine lv_iload hx hb dX7_next_36 (lv_at hl 0 rfl) ?_
      refine lv_aload_n hx hb dX7_next_38 rfl (lv_at hl 5 rfl) ?_
      refine va_get (D := D) (ci := 6) (v := .ref h_now) (C := RX7) (T := TX7) (N := 10) hx hb hts hiX7 hown hK hP 0 rfl rfl 0 (by decide) fl10 (fun _ h9 => h9) rfl dX7_next_39 ?_
      refine va_get (D := D) (ci := 5) (v := .int 2) (C := RX6) (T := TX6) (N := 15) hx hb hts hiX6 hown hK hP 1 rfl rfl 12 (by decide) fl108 (fun _ h9 => h9) rfl dX7_next_42 ?_
      refine lv_icmp_ge (tgt := 123) hx hb dX7_next_45 (by decide) (fun c_43 => ?_) (fun c_43 => absurd c_43 (by decide))
      refine lv_iload_n hx hb dX7_next_123 rfl (lv_at hl 6 rfl) ?_
      refine lv_if_eq (tgt := 133) hx hb dX7_next_124 (by decide) (fun c_44 => absurd c_44 (by decide)) (fun c_44 => ?_)
      refine lv_iload_n hx hb dX7_next_127 rfl (lv_at hl 2 rfl) ?_
      refine lv_bipush (v := (-4)) hx hb dX7_next_128 (by decide) ?_
      refine lv_icmp_ne (tgt := 137) hx hb dX7_next_130 (by decide) (fun c_45 => ?_) (fun c_45 => absurd c_45 (by decide))
      refine lv_iload_n hx hb dX7_next_137 rfl (lv_at hl 3 rfl) ?_
      exact hs_iret hx hb hr hlocks hK hP hD hS () [] rfl (by decide) dX7_next_138 (by first | rfl | decide | (simp only [hsb_0, hsb_1] at c_4 c_31 c_32 c_39 c_40 c_41 c_42 c_43 c_44 c_45; simp [A_next, c_4, c_31, c_32, c_39, c_40, c_41, c_42, c_43, c_44, c_45]; done) | (simp [A_next, c_4, c_31, c_32, c_39, c_40, c_41, c_42, c_43, c_44, c_45]; done))
  · refine lv_iconst (v := (-1)) hx hb dX7_next_9 (by decide) ?_
    exact hs_iret hx hb hr hlocks hK hP hD hS () [] rfl (by decide) dX7_next_10 (by first | rfl | decide | (simp only [hsb_0, hsb_1] at c_4; simp [A_next, c_4]; done) | (simp [A_next, c_4]; done))

set_option maxHeartbeats 4000000 in
set_option maxRecDepth 100000 in
theorem c_isTrial0 (l : Launch) (D : va_G) (k : Nat → ClassId) (sz : Nat) (h : Nat) (h_now : Nat) (h_trial : Nat) (h_images : Nat) (h_imageThere : Nat) (h_teller : Nat) (h_ranks : Nat) (h_court : Nat) (h_sheets : Nat) (n_weights : Nat) (n_kindOf : Nat) (n_light : Nat) (n_heavy : Nat) (n_seenBy : Nat) (n_seenCut : Nat) (n_seenFound : Nat) (v : Int32) (i : Int32) (what : Int32)  : MI l yX7_isTrial wsX7_isTrial ({ frames := 2, cells := 0, slots := 0, locals := 43 }) D k [.ref h, .int v, .int i, .int what] [(h, .inr (6, [.ref h_now, .ref h_trial, .ref h_images, .ref h_imageThere, .ref h_teller, .ref h_ranks, .ref h_court, .ref h_sheets, .int 0, .int 0])), (h_now, .inr (5, [.ref n_weights, .ref n_kindOf, .ref n_light, .ref n_heavy, .ref n_seenBy, .ref n_seenCut, .ref n_seenFound, .int 2, .int 0, .int 0, .int 0, .int 0, .int 2, .int 0, .int 0]))] sz (fun (r : Int32) (u : Unit) => r = hsb (hsin v 0 10 && hsin i 1 1 && hsin what 0 1)) (fun (u : Unit) => [(h, .inr (6, [.ref h_now, .ref h_trial, .ref h_images, .ref h_imageThere, .ref h_teller, .ref h_ranks, .ref h_court, .ref h_sheets, .int 0, .int 0])), (h_now, .inr (5, [.ref n_weights, .ref n_kindOf, .ref n_light, .ref n_heavy, .ref n_seenBy, .ref n_seenCut, .ref n_seenFound, .int 2, .int 0, .int 0, .int 0, .int 0, .int 2, .int 0, .int 0]))]) := by
  refine Met.ofW (cc := cX7_isTrial) (maxL := 4) (ret := (some .boolean)) (by decide) rfl ?_
  intro p e s m args below meth c s₁ B hml hv
  obtain ⟨rfl, hsz, hP, hK, hD0, hN⟩ := hv
  have hx := B.exec
  have hb := B.bytes
  have hr := B.returns
  have hlocks := B.notSynchronized
  have hts := atoms_spec (ws := wsX7_isTrial) B.pre
  have hown : s.vm.findClass RX7 = some m.cls := findClass_of_methodNamed B.named
  have hiX7 : ∀ w ∈ u_ws RX7 TX7 10, w ∈ wsX7_isTrial := by decide +kernel
  have fl10 := hts (.fieldLink RX7 10 "HalfScales" "now" "LHalfScales$Thing;") (by decide +kernel)
  subst hsz
  have hD := hD0.self (sz := s.heap.size)
  generalize hAe : va_A [(h, .inr (6, [.ref h_now, .ref h_trial, .ref h_images, .ref h_imageThere, .ref h_teller, .ref h_ranks, .ref h_court, .ref h_sheets, .int 0, .int 0])), (h_now, .inr (5, [.ref n_weights, .ref n_kindOf, .ref n_light, .ref n_heavy, .ref n_seenBy, .ref n_seenCut, .ref n_seenFound, .int 2, .int 0, .int 0, .int 0, .int 0, .int 2, .int 0, .int 0]))] s.heap.size = A at hD ⊢
  have hA : ∀ q : Nat, s.heap.size ≤ q → A q := fun q h => by rw [← hAe]; exact Or.inr h
  have hS : va_S A s.heap s.heap [] := va_S.rf
  have hl := lv_entry ([.ref h, .int v, .int i, .int what]) (n := 4) (Nat.le_of_ble_eq_true rfl)
  rw [lg_entry_eq]
  generalize (lg_sl ([.ref h, .int v, .int i, .int what]) ++ List.replicate (4 - (lg_sl ([.ref h, .int v, .int i, .int what])).length) Slot.unset).toArray = ls at hl ⊢
  have hl : lv_has ls 4 [(0, .ref h), (1, .int v), (2, .int i), (3, .int what)] := hl
  have hP : va_P D vwCl [(h, .inr (6, [.ref h_now, .ref h_trial, .ref h_images, .ref h_imageThere, .ref h_teller, .ref h_ranks, .ref h_court, .ref h_sheets, .int 0, .int 0])), (h_now, .inr (5, [.ref n_weights, .ref n_kindOf, .ref n_light, .ref n_heavy, .ref n_seenBy, .ref n_seenCut, .ref n_seenFound, .int 2, .int 0, .int 0, .int 0, .int 0, .int 2, .int 0, .int 0]))] s.heap := hP
  refine lv_iload_n hx hb dX7_isTrial_0 rfl (lv_at hl 1 rfl) ?_
  refine lv_iconst (v := 0) hx hb dX7_isTrial_1 (by decide) ?_
  refine lv_bipush (v := 10) hx hb dX7_isTrial_2 (by decide) ?_
  refine hs_pi (va_runS (As := [.int v, .int 0, .int 10]) (rest := []) ⟨hx, hb, hml, hown, hts⟩ (c_within l D k _ v 0 10) (va_cwS 3 hts gX7_isTrial_X7_within rfl rfl rfl (by decide +kernel) ⟨Nat.le_of_ble_eq_true rfl, Nat.le_of_ble_eq_true rfl⟩) (hs_preS hK hN (hs_subP (w := []) hP [] rfl) (hD.sub (ws' := []) [] (by decide) rfl)) rfl rfl hl.1 rfl (lv_room (Nat.le_of_ble_eq_true rfl)) dX7_isTrial_4 ⟨Nat.le_of_ble_eq_true rfl, Nat.le_of_ble_eq_true rfl⟩) hP hD hS hA (fun r_1 u_3 H locs hw_2 hP hS => ?_)
  refine hs_topi (hsb (hsin v 0 10)) hw_2 ?_
  refine lv_if_eq (tgt := 34) hx hb dX7_isTrial_7 (by decide) (fun c_4 => ?_) (fun c_4 => ?_)
  · refine lv_iconst (v := 0) hx hb dX7_isTrial_34 (by decide) ?_
    exact hs_zret hx hb hr hlocks hK hP hD hS () [0, 1] rfl (by decide) dX7_isTrial_35 rfl (by simp only [hsb_0, hsb_1] at c_4; simp [hsb, c_4])
  · refine lv_aload_n hx hb dX7_isTrial_10 rfl (lv_at hl 0 rfl) ?_
    refine va_get (D := D) (ci := 6) (v := .ref h_now) (C := RX7) (T := TX7) (N := 10) hx hb hts hiX7 hown hK hP 0 rfl rfl 0 (by decide) fl10 (fun _ h9 => h9) rfl dX7_isTrial_11 ?_
    refine lv_iload_n hx hb dX7_isTrial_14 rfl (lv_at hl 2 rfl) ?_
    refine hs_ci (va_runV (As := [.int i]) (rest := []) ⟨hx, hb, hml, hown, hts⟩ (c_isCut0 l D k _ h_now n_weights n_kindOf n_light n_heavy n_seenBy n_seenCut n_seenFound i) (cwV 1 hts gX7_isTrial_X6_isCut rfl rfl rfl (by decide +kernel) ⟨Nat.le_of_ble_eq_true rfl, Nat.le_of_ble_eq_true rfl⟩) (hs_preV hK hN (hs_subP (w := [(h_now, .inr (5, [.ref n_weights, .ref n_kindOf, .ref n_light, .ref n_heavy, .ref n_seenBy, .ref n_seenCut, .ref n_seenFound, .int 2, .int 0, .int 0, .int 0, .int 0, .int 2, .int 0, .int 0]))]) hP [1] rfl) (hD.sub (ws' := [(h_now, .inr (5, [.ref n_weights, .ref n_kindOf, .ref n_light, .ref n_heavy, .ref n_seenBy, .ref n_seenCut, .ref n_seenFound, .int 2, .int 0, .int 0, .int 0, .int 0, .int 2, .int 0, .int 0]))]) [1] (by decide) rfl) (ci := 5) (q0 := 0) rfl rfl) rfl rfl hl.1 rfl (lv_room (Nat.le_of_ble_eq_true rfl)) dX7_isTrial_15 ⟨Nat.le_of_ble_eq_true rfl, Nat.le_of_ble_eq_true rfl⟩) hP hD hS hA [1] [0] [(h, .inr (6, [.ref h_now, .ref h_trial, .ref h_images, .ref h_imageThere, .ref h_teller, .ref h_ranks, .ref h_court, .ref h_sheets, .int 0, .int 0]))] rfl rfl (by decide) (by decide) [0, 1] (fun u_7 => [(h, .inr (6, [.ref h_now, .ref h_trial, .ref h_images, .ref h_imageThere, .ref h_teller, .ref h_ranks, .ref h_court, .ref h_sheets, .int 0, .int 0])), (h_now, .inr (5, [.ref n_weights, .ref n_kindOf, .ref n_light, .ref n_heavy, .ref n_seenBy, .ref n_seenCut, .ref n_seenFound, .int 2, .int 0, .int 0, .int 0, .int 0, .int 2, .int 0, .int 0]))]) (fun _ => rfl) (by decide) (fun r_5 u_7 H locs hw_6 hP hD hS => ?_)
    have hP : va_P D vwCl [(h, .inr (6, [.ref h_now, .ref h_trial, .ref h_images, .ref h_imageThere, .ref h_teller, .ref h_ranks, .ref h_court, .ref h_sheets, .int 0, .int 0])), (h_now, .inr (5, [.ref n_weights, .ref n_kindOf, .ref n_light, .ref n_heavy, .ref n_seenBy, .ref n_seenCut, .ref n_seenFound, .int 2, .int 0, .int 0, .int 0, .int 0, .int 2, .int 0, .int 0]))] H := hP
    have hD : va_D A [(h, .inr (6, [.ref h_now, .ref h_trial, .ref h_images, .ref h_imageThere, .ref h_teller, .ref h_ranks, .ref h_court, .ref h_sheets, .int 0, .int 0])), (h_now, .inr (5, [.ref n_weights, .ref n_kindOf, .ref n_light, .ref n_heavy, .ref n_seenBy, .ref n_seenCut, .ref n_seenFound, .int 2, .int 0, .int 0, .int 0, .int 0, .int 2, .int 0, .int 0]))] := hD
    refine hs_topi (hsb (hsin i 1 1)) hw_6 ?_
    refine lv_if_eq (tgt := 34) hx hb dX7_isTrial_18 (by decide) (fun c_8 => ?_) (fun c_8 => ?_)
    · refine lv_iconst (v := 0) hx hb dX7_isTrial_34 (by decide) ?_
      exact hs_zret hx hb hr hlocks hK hP hD hS () [0, 1] rfl (by decide) dX7_isTrial_35 rfl (by simp only [hsb_0, hsb_1] at c_4 c_8; simp [hsb, c_4, c_8])
    · refine lv_iload_n hx hb dX7_isTrial_21 rfl (lv_at hl 3 rfl) ?_
      refine lv_iconst (v := 0) hx hb dX7_isTrial_22 (by decide) ?_
      refine lv_iconst (v := 1) hx hb dX7_isTrial_23 (by decide) ?_
      refine hs_pi (va_runS (As := [.int what, .int 0, .int 1]) (rest := []) ⟨hx, hb, hml, hown, hts⟩ (c_within l D k _ what 0 1) (va_cwS 3 hts gX7_isTrial_X7_within rfl rfl rfl (by decide +kernel) ⟨Nat.le_of_ble_eq_true rfl, Nat.le_of_ble_eq_true rfl⟩) (hs_preS hK hN (hs_subP (w := []) hP [] rfl) (hD.sub (ws' := []) [] (by decide) rfl)) rfl rfl hl.1 rfl (lv_room (Nat.le_of_ble_eq_true rfl)) dX7_isTrial_24 ⟨Nat.le_of_ble_eq_true rfl, Nat.le_of_ble_eq_true rfl⟩) hP hD hS hA (fun r_9 u_11 H locs hw_10 hP hS => ?_)
      refine hs_topi (hsb (hsin what 0 1)) hw_10 ?_
      refine lv_if_eq (tgt := 34) hx hb dX7_isTrial_27 (by decide) (fun c_12 => ?_) (fun c_12 => ?_)
      · refine lv_iconst (v := 0) hx hb dX7_isTrial_34 (by decide) ?_
        exact hs_zret hx hb hr hlocks hK hP hD hS () [0, 1] rfl (by decide) dX7_isTrial_35 rfl (by simp only [hsb_0, hsb_1] at c_4 c_8 c_12; simp [hsb, c_4, c_8, c_12])
      · refine lv_iconst (v := 1) hx hb dX7_isTrial_30 (by decide) ?_
        refine lv_goto (tgt := 35) hx hb dX7_isTrial_31 (by decide) ?_
        exact hs_zret hx hb hr hlocks hK hP hD hS () [0, 1] rfl (by decide) dX7_isTrial_35 rfl (by simp only [hsb_0, hsb_1] at c_4 c_8 c_12; simp [hsb, c_4, c_8, c_12])

set_option maxHeartbeats 4000000 in
set_option maxRecDepth 100000 in
theorem p_luck (l : Launch) (D : va_G) (k : Nat → ClassId) (sz : Nat) (h : Nat) (h_now : Nat) (h_trial : Nat) (h_images : Nat) (h_imageThere : Nat) (h_teller : Nat) (h_ranks : Nat) (h_court : Nat) (h_sheets : Nat) (n_weights : Nat) (n_kindOf : Nat) (n_light : Nat) (n_heavy : Nat) (n_seenBy : Nat) (n_seenCut : Nat) (n_seenFound : Nat) (co_tell : Nat) (v : Int32) (i : Int32) (what : Int32)  : ML l yX7_luck wsX7_luck ({ frames := 3, cells := 0, slots := 0, locals := 66 }) D k [.ref h, .int v, .int i, .int what] [(h, .inr (6, [.ref h_now, .ref h_trial, .ref h_images, .ref h_imageThere, .ref h_teller, .ref h_ranks, .ref h_court, .ref h_sheets, .int 0, .int 0])), (h_now, .inr (5, [.ref n_weights, .ref n_kindOf, .ref n_light, .ref n_heavy, .ref n_seenBy, .ref n_seenCut, .ref n_seenFound, .int 2, .int 0, .int 0, .int 0, .int 0, .int 2, .int 0, .int 0])), (h_court, .inr (0, [.ref co_tell])), (co_tell, .inl (k 1, 5, .inr (.inl (hszl))))] sz (fun (r : Int64) (u : Unit) => r = A_luck v i what) (fun (u : Unit) => []) := by
  refine Met.ofW (cc := cX7_luck) (maxL := 4) (ret := (some .long)) (by decide) rfl ?_
  intro p e s m args below meth c s₁ B hml hv
  obtain ⟨rfl, hsz, hP, hK, hD0, hN⟩ := hv
  have hx := B.exec
  have hb := B.bytes
  have hr := B.returns
  have hlocks := B.notSynchronized
  have hts := atoms_spec (ws := wsX7_luck) B.pre
  have hown : s.vm.findClass RX7 = some m.cls := findClass_of_methodNamed B.named
  have hiX6 : ∀ w ∈ u_ws RX6 TX6 15, w ∈ wsX7_luck := by decide +kernel
  have hiX7 : ∀ w ∈ u_ws RX7 TX7 10, w ∈ wsX7_luck := by decide +kernel
  have fl44 := hts (.fieldLink RX7 44 "HalfScales" "court" "LHalfScales$Court;") (by decide +kernel)
  have fl10 := hts (.fieldLink RX7 10 "HalfScales" "now" "LHalfScales$Thing;") (by decide +kernel)
  have fl96 := hts (.fieldLink RX7 96 "HalfScales$Thing" "peopleCount" "I") (by decide +kernel)
  have kl235 := hts (.constantLong RX7 235 (-1)) (by decide +kernel)
  subst hsz
  have hD := hD0.self (sz := s.heap.size)
  generalize hAe : va_A [(h, .inr (6, [.ref h_now, .ref h_trial, .ref h_images, .ref h_imageThere, .ref h_teller, .ref h_ranks, .ref h_court, .ref h_sheets, .int 0, .int 0])), (h_now, .inr (5, [.ref n_weights, .ref n_kindOf, .ref n_light, .ref n_heavy, .ref n_seenBy, .ref n_seenCut, .ref n_seenFound, .int 2, .int 0, .int 0, .int 0, .int 0, .int 2, .int 0, .int 0])), (h_court, .inr (0, [.ref co_tell])), (co_tell, .inl (k 1, 5, .inr (.inl (hszl))))] s.heap.size = A at hD ⊢
  have hA : ∀ q : Nat, s.heap.size ≤ q → A q := fun q h => by rw [← hAe]; exact Or.inr h
  have hS : va_S A s.heap s.heap [] := va_S.rf
  have hl := lv_entry ([.ref h, .int v, .int i, .int what]) (n := 4) (Nat.le_of_ble_eq_true rfl)
  rw [lg_entry_eq]
  generalize (lg_sl ([.ref h, .int v, .int i, .int what]) ++ List.replicate (4 - (lg_sl ([.ref h, .int v, .int i, .int what])).length) Slot.unset).toArray = ls at hl ⊢
  have hl : lv_has ls 4 [(0, .ref h), (1, .int v), (2, .int i), (3, .int what)] := hl
  have hP : va_P D vwCl [(h, .inr (6, [.ref h_now, .ref h_trial, .ref h_images, .ref h_imageThere, .ref h_teller, .ref h_ranks, .ref h_court, .ref h_sheets, .int 0, .int 0])), (h_now, .inr (5, [.ref n_weights, .ref n_kindOf, .ref n_light, .ref n_heavy, .ref n_seenBy, .ref n_seenCut, .ref n_seenFound, .int 2, .int 0, .int 0, .int 0, .int 0, .int 2, .int 0, .int 0])), (h_court, .inr (0, [.ref co_tell])), (co_tell, .inl (k 1, 5, .inr (.inl (hszl))))] s.heap := hP
  refine lv_aload_n hx hb dX7_luck_0 rfl (lv_at hl 0 rfl) ?_
  refine lv_iload_n hx hb dX7_luck_1 rfl (lv_at hl 1 rfl) ?_
  refine lv_iload_n hx hb dX7_luck_2 rfl (lv_at hl 2 rfl) ?_
  refine lv_iload_n hx hb dX7_luck_3 rfl (lv_at hl 3 rfl) ?_
  refine hs_ci (va_runV (As := [.int v, .int i, .int what]) (rest := []) ⟨hx, hb, hml, hown, hts⟩ (c_isTrial0 l D k _ h h_now h_trial h_images h_imageThere h_teller h_ranks h_court h_sheets n_weights n_kindOf n_light n_heavy n_seenBy n_seenCut n_seenFound v i what) (cwV 3 hts gX7_luck_X7_isTrial rfl rfl rfl (by decide +kernel) ⟨Nat.le_of_ble_eq_true rfl, Nat.le_of_ble_eq_true rfl⟩) (hs_preV hK hN (hs_subP (w := [(h, .inr (6, [.ref h_now, .ref h_trial, .ref h_images, .ref h_imageThere, .ref h_teller, .ref h_ranks, .ref h_court, .ref h_sheets, .int 0, .int 0])), (h_now, .inr (5, [.ref n_weights, .ref n_kindOf, .ref n_light, .ref n_heavy, .ref n_seenBy, .ref n_seenCut, .ref n_seenFound, .int 2, .int 0, .int 0, .int 0, .int 0, .int 2, .int 0, .int 0]))]) hP [0, 1] rfl) (hD.sub (ws' := [(h, .inr (6, [.ref h_now, .ref h_trial, .ref h_images, .ref h_imageThere, .ref h_teller, .ref h_ranks, .ref h_court, .ref h_sheets, .int 0, .int 0])), (h_now, .inr (5, [.ref n_weights, .ref n_kindOf, .ref n_light, .ref n_heavy, .ref n_seenBy, .ref n_seenCut, .ref n_seenFound, .int 2, .int 0, .int 0, .int 0, .int 0, .int 2, .int 0, .int 0]))]) [0, 1] (by decide) rfl) (ci := 6) (q0 := 0) rfl rfl) rfl rfl hl.1 rfl (lv_room (Nat.le_of_ble_eq_true rfl)) dX7_luck_4 ⟨Nat.le_of_ble_eq_true rfl, Nat.le_of_ble_eq_true rfl⟩) hP hD hS hA [0, 1] [2, 3] [(h_court, .inr (0, [.ref co_tell])), (co_tell, .inl (k 1, 5, .inr (.inl (hszl))))] rfl rfl (by decide) (by decide) [2, 3, 0, 1] (fun u_3 => [(h, .inr (6, [.ref h_now, .ref h_trial, .ref h_images, .ref h_imageThere, .ref h_teller, .ref h_ranks, .ref h_court, .ref h_sheets, .int 0, .int 0])), (h_now, .inr (5, [.ref n_weights, .ref n_kindOf, .ref n_light, .ref n_heavy, .ref n_seenBy, .ref n_seenCut, .ref n_seenFound, .int 2, .int 0, .int 0, .int 0, .int 0, .int 2, .int 0, .int 0])), (h_court, .inr (0, [.ref co_tell])), (co_tell, .inl (k 1, 5, .inr (.inl (hszl))))]) (fun _ => rfl) (by decide) (fun r_1 u_3 H locs hw_2 hP hD hS => ?_)
  have hP : va_P D vwCl [(h, .inr (6, [.ref h_now, .ref h_trial, .ref h_images, .ref h_imageThere, .ref h_teller, .ref h_ranks, .ref h_court, .ref h_sheets, .int 0, .int 0])), (h_now, .inr (5, [.ref n_weights, .ref n_kindOf, .ref n_light, .ref n_heavy, .ref n_seenBy, .ref n_seenCut, .ref n_seenFound, .int 2, .int 0, .int 0, .int 0, .int 0, .int 2, .int 0, .int 0])), (h_court, .inr (0, [.ref co_tell])), (co_tell, .inl (k 1, 5, .inr (.inl (hszl))))] H := hP
  have hD : va_D A [(h, .inr (6, [.ref h_now, .ref h_trial, .ref h_images, .ref h_imageThere, .ref h_teller, .ref h_ranks, .ref h_court, .ref h_sheets, .int 0, .int 0])), (h_now, .inr (5, [.ref n_weights, .ref n_kindOf, .ref n_light, .ref n_heavy, .ref n_seenBy, .ref n_seenCut, .ref n_seenFound, .int 2, .int 0, .int 0, .int 0, .int 0, .int 2, .int 0, .int 0])), (h_court, .inr (0, [.ref co_tell])), (co_tell, .inl (k 1, 5, .inr (.inl (hszl))))] := hD
  refine hs_topi (hsb (hsin v 0 10 && hsin i 1 1 && hsin what 0 1)) hw_2 ?_
  refine lv_if_ne (tgt := 14) hx hb dX7_luck_7 (by decide) (fun c_4 => ?_) (fun c_4 => ?_)
  · obtain rfl : i = 1 := hs_one (hs_and2 (hs_and1 (hs_nb c_4)))
    refine lv_aload_n hx hb dX7_luck_14 rfl (lv_at hl 0 rfl) ?_
    rcases hs_v01 (hs_and2 (hs_nb c_4)) with rfl | rfl
    · refine va_get (D := D) (ci := 6) (v := .ref h_court) (C := RX7) (T := TX7) (N := 10) hx hb hts hiX7 hown hK hP 0 rfl rfl 6 (by decide) fl44 (fun _ h9 => h9) rfl dX7_luck_15 ?_
      refine lv_iload_n hx hb dX7_luck_18 rfl (lv_at hl 1 rfl) ?_
      refine lv_aload_n hx hb dX7_luck_19 rfl (lv_at hl 0 rfl) ?_
      refine va_get (D := D) (ci := 6) (v := .ref h_now) (C := RX7) (T := TX7) (N := 10) hx hb hts hiX7 hown hK hP 0 rfl rfl 0 (by decide) fl10 (fun _ h9 => h9) rfl dX7_luck_20 ?_
      refine lv_iload_n hx hb dX7_luck_23 rfl (lv_at hl 2 rfl) ?_
      refine hs_ci (va_runV (As := [.int 1]) (rest := [.int v, .ref h_court]) ⟨hx, hb, hml, hown, hts⟩ (c_justTo0 l D k _ h_now n_weights n_kindOf n_light n_heavy n_seenBy n_seenCut n_seenFound 1) (cwV 1 hts gX7_luck_X6_justTo rfl rfl rfl (by decide +kernel) ⟨Nat.le_of_ble_eq_true rfl, Nat.le_of_ble_eq_true rfl⟩) (hs_preV hK hN (hs_subP (w := [(h_now, .inr (5, [.ref n_weights, .ref n_kindOf, .ref n_light, .ref n_heavy, .ref n_seenBy, .ref n_seenCut, .ref n_seenFound, .int 2, .int 0, .int 0, .int 0, .int 0, .int 2, .int 0, .int 0]))]) hP [1] rfl) (hD.sub (ws' := [(h_now, .inr (5, [.ref n_weights, .ref n_kindOf, .ref n_light, .ref n_heavy, .ref n_seenBy, .ref n_seenCut, .ref n_seenFound, .int 2, .int 0, .int 0, .int 0, .int 0, .int 2, .int 0, .int 0]))]) [1] (by decide) rfl) (ci := 5) (q0 := 0) rfl rfl) rfl rfl hl.1 rfl (lv_room (Nat.le_of_ble_eq_true rfl)) dX7_luck_24 ⟨Nat.le_of_ble_eq_true rfl, Nat.le_of_ble_eq_true rfl⟩) hP hD hS hA [1] [0, 2, 3] [(h, .inr (6, [.ref h_now, .ref h_trial, .ref h_images, .ref h_imageThere, .ref h_teller, .ref h_ranks, .ref h_court, .ref h_sheets, .int 0, .int 0])), (h_court, .inr (0, [.ref co_tell])), (co_tell, .inl (k 1, 5, .inr (.inl (hszl))))] rfl rfl (by decide) (by decide) [0, 3, 1, 2] (fun u_7 => [(h, .inr (6, [.ref h_now, .ref h_trial, .ref h_images, .ref h_imageThere, .ref h_teller, .ref h_ranks, .ref h_court, .ref h_sheets, .int 0, .int 0])), (h_now, .inr (5, [.ref n_weights, .ref n_kindOf, .ref n_light, .ref n_heavy, .ref n_seenBy, .ref n_seenCut, .ref n_seenFound, .int 2, .int 0, .int 0, .int 0, .int 0, .int 2, .int 0, .int 0])), (h_court, .inr (0, [.ref co_tell])), (co_tell, .inl (k 1, 5, .inr (.inl (hszl))))]) (fun _ => rfl) (by decide) (fun r_5 u_7 H locs hw_6 hP hD hS => ?_)
      have hP : va_P D vwCl [(h, .inr (6, [.ref h_now, .ref h_trial, .ref h_images, .ref h_imageThere, .ref h_teller, .ref h_ranks, .ref h_court, .ref h_sheets, .int 0, .int 0])), (h_now, .inr (5, [.ref n_weights, .ref n_kindOf, .ref n_light, .ref n_heavy, .ref n_seenBy, .ref n_seenCut, .ref n_seenFound, .int 2, .int 0, .int 0, .int 0, .int 0, .int 2, .int 0, .int 0])), (h_court, .inr (0, [.ref co_tell])), (co_tell, .inl (k 1, 5, .inr (.inl (hszl))))] H := hP
      have hD : va_D A [(h, .inr (6, [.ref h_now, .ref h_trial, .ref h_images, .ref h_imageThere, .ref h_teller, .ref h_ranks, .ref h_court, .ref h_sheets, .int 0, .int 0])), (h_now, .inr (5, [.ref n_weights, .ref n_kindOf, .ref n_light, .ref n_heavy, .ref n_seenBy, .ref n_seenCut, .ref n_seenFound, .int 2, .int 0, .int 0, .int 0, .int 0, .int 2, .int 0, .int 0])), (h_court, .inr (0, [.ref co_tell])), (co_tell, .inl (k 1, 5, .inr (.inl (hszl))))] := hD
      refine hs_topi 0 (hw_6.trans (by first | rfl | decide +kernel | rfl)) ?_
      refine lv_aload_n hx hb dX7_luck_27 rfl (lv_at hl 0 rfl) ?_
      refine va_get (D := D) (ci := 6) (v := .ref h_now) (C := RX7) (T := TX7) (N := 10) hx hb hts hiX7 hown hK hP 0 rfl rfl 0 (by decide) fl10 (fun _ h9 => h9) rfl dX7_luck_28 ?_
      refine va_get (D := D) (ci := 5) (v := .int 0) (C := RX6) (T := TX6) (N := 15) hx hb hts hiX6 hown hK hP 1 rfl rfl 8 (by decide) fl96 (fun _ h9 => h9) rfl dX7_luck_31 ?_
      refine lv_iload_n hx hb dX7_luck_34 rfl (lv_at hl 3 rfl) ?_
      refine hs_cl (va_runV (As := [.int v, .int 0, .int 0, .int 0]) (rest := []) ⟨hx, hb, hml, hown, hts⟩ (c_majority_0 l D k _ h_court co_tell v hszl) (cwV 4 hts gX7_luck_X0_majority rfl rfl rfl (by decide +kernel) ⟨Nat.le_of_ble_eq_true rfl, Nat.le_of_ble_eq_true rfl⟩) (hs_preV hK hN (hs_subP (w := [(h_court, .inr (0, [.ref co_tell])), (co_tell, .inl (k 1, 5, .inr (.inl (hszl))))]) hP [2, 3] rfl) (hD.sub (ws' := [(h_court, .inr (0, [.ref co_tell])), (co_tell, .inl (k 1, 5, .inr (.inl (hszl))))]) [2, 3] (by decide) rfl) (ci := 0) (q0 := 0) rfl rfl) rfl rfl hl.1 rfl (lv_room (Nat.le_of_ble_eq_true rfl)) dX7_luck_35 ⟨Nat.le_of_ble_eq_true rfl, Nat.le_of_ble_eq_true rfl⟩) hP hD hS hA [2, 3] [0, 1] [(h, .inr (6, [.ref h_now, .ref h_trial, .ref h_images, .ref h_imageThere, .ref h_teller, .ref h_ranks, .ref h_court, .ref h_sheets, .int 0, .int 0])), (h_now, .inr (5, [.ref n_weights, .ref n_kindOf, .ref n_light, .ref n_heavy, .ref n_seenBy, .ref n_seenCut, .ref n_seenFound, .int 2, .int 0, .int 0, .int 0, .int 0, .int 2, .int 0, .int 0]))] rfl rfl (by decide) (by decide) [0, 1] (fun u_10 => [(h, .inr (6, [.ref h_now, .ref h_trial, .ref h_images, .ref h_imageThere, .ref h_teller, .ref h_ranks, .ref h_court, .ref h_sheets, .int 0, .int 0])), (h_now, .inr (5, [.ref n_weights, .ref n_kindOf, .ref n_light, .ref n_heavy, .ref n_seenBy, .ref n_seenCut, .ref n_seenFound, .int 2, .int 0, .int 0, .int 0, .int 0, .int 2, .int 0, .int 0]))]) (fun _ => rfl) (by decide) (fun r_8 u_10 H locs hw_9 hP hD hS => ?_)
      have hP : va_P D vwCl [(h, .inr (6, [.ref h_now, .ref h_trial, .ref h_images, .ref h_imageThere, .ref h_teller, .ref h_ranks, .ref h_court, .ref h_sheets, .int 0, .int 0])), (h_now, .inr (5, [.ref n_weights, .ref n_kindOf, .ref n_light, .ref n_heavy, .ref n_seenBy, .ref n_seenCut, .ref n_seenFound, .int 2, .int 0, .int 0, .int 0, .int 0, .int 2, .int 0, .int 0]))] H := hP
      have hD : va_D A [(h, .inr (6, [.ref h_now, .ref h_trial, .ref h_images, .ref h_imageThere, .ref h_teller, .ref h_ranks, .ref h_court, .ref h_sheets, .int 0, .int 0])), (h_now, .inr (5, [.ref n_weights, .ref n_kindOf, .ref n_light, .ref n_heavy, .ref n_seenBy, .ref n_seenCut, .ref n_seenFound, .int 2, .int 0, .int 0, .int 0, .int 0, .int 2, .int 0, .int 0]))] := hD
      refine hs_topl 0 (hw_9.trans (by first | rfl | decide +kernel | rfl)) ?_
      exact hs_lret hx hb hr hlocks hK hP hD hS () [] rfl (by decide) dX7_luck_38 (by first | rfl | decide | (simp only [hsb_0, hsb_1] at c_4; simp [A_luck, c_4]; done) | (simp [A_luck, c_4]; done))
    · refine va_get (D := D) (ci := 6) (v := .ref h_court) (C := RX7) (T := TX7) (N := 10) hx hb hts hiX7 hown hK hP 0 rfl rfl 6 (by decide) fl44 (fun _ h9 => h9) rfl dX7_luck_15 ?_
      refine lv_iload_n hx hb dX7_luck_18 rfl (lv_at hl 1 rfl) ?_
      refine lv_aload_n hx hb dX7_luck_19 rfl (lv_at hl 0 rfl) ?_
      refine va_get (D := D) (ci := 6) (v := .ref h_now) (C := RX7) (T := TX7) (N := 10) hx hb hts hiX7 hown hK hP 0 rfl rfl 0 (by decide) fl10 (fun _ h9 => h9) rfl dX7_luck_20 ?_
      refine lv_iload_n hx hb dX7_luck_23 rfl (lv_at hl 2 rfl) ?_
      refine hs_ci (va_runV (As := [.int 1]) (rest := [.int v, .ref h_court]) ⟨hx, hb, hml, hown, hts⟩ (c_justTo0 l D k _ h_now n_weights n_kindOf n_light n_heavy n_seenBy n_seenCut n_seenFound 1) (cwV 1 hts gX7_luck_X6_justTo rfl rfl rfl (by decide +kernel) ⟨Nat.le_of_ble_eq_true rfl, Nat.le_of_ble_eq_true rfl⟩) (hs_preV hK hN (hs_subP (w := [(h_now, .inr (5, [.ref n_weights, .ref n_kindOf, .ref n_light, .ref n_heavy, .ref n_seenBy, .ref n_seenCut, .ref n_seenFound, .int 2, .int 0, .int 0, .int 0, .int 0, .int 2, .int 0, .int 0]))]) hP [1] rfl) (hD.sub (ws' := [(h_now, .inr (5, [.ref n_weights, .ref n_kindOf, .ref n_light, .ref n_heavy, .ref n_seenBy, .ref n_seenCut, .ref n_seenFound, .int 2, .int 0, .int 0, .int 0, .int 0, .int 2, .int 0, .int 0]))]) [1] (by decide) rfl) (ci := 5) (q0 := 0) rfl rfl) rfl rfl hl.1 rfl (lv_room (Nat.le_of_ble_eq_true rfl)) dX7_luck_24 ⟨Nat.le_of_ble_eq_true rfl, Nat.le_of_ble_eq_true rfl⟩) hP hD hS hA [1] [0, 2, 3] [(h, .inr (6, [.ref h_now, .ref h_trial, .ref h_images, .ref h_imageThere, .ref h_teller, .ref h_ranks, .ref h_court, .ref h_sheets, .int 0, .int 0])), (h_court, .inr (0, [.ref co_tell])), (co_tell, .inl (k 1, 5, .inr (.inl (hszl))))] rfl rfl (by decide) (by decide) [0, 3, 1, 2] (fun u_13 => [(h, .inr (6, [.ref h_now, .ref h_trial, .ref h_images, .ref h_imageThere, .ref h_teller, .ref h_ranks, .ref h_court, .ref h_sheets, .int 0, .int 0])), (h_now, .inr (5, [.ref n_weights, .ref n_kindOf, .ref n_light, .ref n_heavy, .ref n_seenBy, .ref n_seenCut, .ref n_seenFound, .int 2, .int 0, .int 0, .int 0, .int 0, .int 2, .int 0, .int 0])), (h_court, .inr (0, [.ref co_tell])), (co_tell, .inl (k 1, 5, .inr (.inl (hszl))))]) (fun _ => rfl) (by decide) (fun r_11 u_13 H locs hw_12 hP hD hS => ?_)
      have hP : va_P D vwCl [(h, .inr (6, [.ref h_now, .ref h_trial, .ref h_images, .ref h_imageThere, .ref h_teller, .ref h_ranks, .ref h_court, .ref h_sheets, .int 0, .int 0])), (h_now, .inr (5, [.ref n_weights, .ref n_kindOf, .ref n_light, .ref n_heavy, .ref n_seenBy, .ref n_seenCut, .ref n_seenFound, .int 2, .int 0, .int 0, .int 0, .int 0, .int 2, .int 0, .int 0])), (h_court, .inr (0, [.ref co_tell])), (co_tell, .inl (k 1, 5, .inr (.inl (hszl))))] H := hP
      have hD : va_D A [(h, .inr (6, [.ref h_now, .ref h_trial, .ref h_images, .ref h_imageThere, .ref h_teller, .ref h_ranks, .ref h_court, .ref h_sheets, .int 0, .int 0])), (h_now, .inr (5, [.ref n_weights, .ref n_kindOf, .ref n_light, .ref n_heavy, .ref n_seenBy, .ref n_seenCut, .ref n_seenFound, .int 2, .int 0, .int 0, .int 0, .int 0, .int 2, .int 0, .int 0])), (h_court, .inr (0, [.ref co_tell])), (co_tell, .inl (k 1, 5, .inr (.inl (hszl))))] := hD
      refine hs_topi 0 (hw_12.trans (by first | rfl | decide +kernel | rfl)) ?_
      refine lv_aload_n hx hb dX7_luck_27 rfl (lv_at hl 0 rfl) ?_
      refine va_get (D := D) (ci := 6) (v := .ref h_now) (C := RX7) (T := TX7) (N := 10) hx hb hts hiX7 hown hK hP 0 rfl rfl 0 (by decide) fl10 (fun _ h9 => h9) rfl dX7_luck_28 ?_
      refine va_get (D := D) (ci := 5) (v := .int 0) (C := RX6) (T := TX6) (N := 15) hx hb hts hiX6 hown hK hP 1 rfl rfl 8 (by decide) fl96 (fun _ h9 => h9) rfl dX7_luck_31 ?_
      refine lv_iload_n hx hb dX7_luck_34 rfl (lv_at hl 3 rfl) ?_
      refine hs_cl (va_runV (As := [.int v, .int 0, .int 0, .int 1]) (rest := []) ⟨hx, hb, hml, hown, hts⟩ (c_majority_1 l D k _ h_court co_tell v hszl) (cwV 4 hts gX7_luck_X0_majority rfl rfl rfl (by decide +kernel) ⟨Nat.le_of_ble_eq_true rfl, Nat.le_of_ble_eq_true rfl⟩) (hs_preV hK hN (hs_subP (w := [(h_court, .inr (0, [.ref co_tell])), (co_tell, .inl (k 1, 5, .inr (.inl (hszl))))]) hP [2, 3] rfl) (hD.sub (ws' := [(h_court, .inr (0, [.ref co_tell])), (co_tell, .inl (k 1, 5, .inr (.inl (hszl))))]) [2, 3] (by decide) rfl) (ci := 0) (q0 := 0) rfl rfl) rfl rfl hl.1 rfl (lv_room (Nat.le_of_ble_eq_true rfl)) dX7_luck_35 ⟨Nat.le_of_ble_eq_true rfl, Nat.le_of_ble_eq_true rfl⟩) hP hD hS hA [2, 3] [0, 1] [(h, .inr (6, [.ref h_now, .ref h_trial, .ref h_images, .ref h_imageThere, .ref h_teller, .ref h_ranks, .ref h_court, .ref h_sheets, .int 0, .int 0])), (h_now, .inr (5, [.ref n_weights, .ref n_kindOf, .ref n_light, .ref n_heavy, .ref n_seenBy, .ref n_seenCut, .ref n_seenFound, .int 2, .int 0, .int 0, .int 0, .int 0, .int 2, .int 0, .int 0]))] rfl rfl (by decide) (by decide) [0, 1] (fun u_16 => [(h, .inr (6, [.ref h_now, .ref h_trial, .ref h_images, .ref h_imageThere, .ref h_teller, .ref h_ranks, .ref h_court, .ref h_sheets, .int 0, .int 0])), (h_now, .inr (5, [.ref n_weights, .ref n_kindOf, .ref n_light, .ref n_heavy, .ref n_seenBy, .ref n_seenCut, .ref n_seenFound, .int 2, .int 0, .int 0, .int 0, .int 0, .int 2, .int 0, .int 0]))]) (fun _ => rfl) (by decide) (fun r_14 u_16 H locs hw_15 hP hD hS => ?_)
      have hP : va_P D vwCl [(h, .inr (6, [.ref h_now, .ref h_trial, .ref h_images, .ref h_imageThere, .ref h_teller, .ref h_ranks, .ref h_court, .ref h_sheets, .int 0, .int 0])), (h_now, .inr (5, [.ref n_weights, .ref n_kindOf, .ref n_light, .ref n_heavy, .ref n_seenBy, .ref n_seenCut, .ref n_seenFound, .int 2, .int 0, .int 0, .int 0, .int 0, .int 2, .int 0, .int 0]))] H := hP
      have hD : va_D A [(h, .inr (6, [.ref h_now, .ref h_trial, .ref h_images, .ref h_imageThere, .ref h_teller, .ref h_ranks, .ref h_court, .ref h_sheets, .int 0, .int 0])), (h_now, .inr (5, [.ref n_weights, .ref n_kindOf, .ref n_light, .ref n_heavy, .ref n_seenBy, .ref n_seenCut, .ref n_seenFound, .int 2, .int 0, .int 0, .int 0, .int 0, .int 2, .int 0, .int 0]))] := hD
      refine hs_topl 1 (hw_15.trans (by first | rfl | decide +kernel | rfl)) ?_
      exact hs_lret hx hb hr hlocks hK hP hD hS () [] rfl (by decide) dX7_luck_38 (by first | rfl | decide | (simp only [hsb_0, hsb_1] at c_4; simp [A_luck, c_4]; done) | (simp [A_luck, c_4]; done))
  · refine lv_ldc2 hx hb hown kl235 dX7_luck_10 ?_
    exact hs_lret hx hb hr hlocks hK hP hD hS () [] rfl (by decide) dX7_luck_13 (by first | rfl | decide | (simp only [hsb_0, hsb_1] at c_4; simp [A_luck, c_4]; done) | (simp [A_luck, c_4]; done))

set_option maxHeartbeats 4000000 in
set_option maxRecDepth 100000 in
theorem p_mean (l : Launch) (D : va_G) (k : Nat → ClassId) (sz : Nat) (h : Nat) (h_now : Nat) (h_trial : Nat) (h_images : Nat) (h_imageThere : Nat) (h_teller : Nat) (h_ranks : Nat) (h_court : Nat) (h_sheets : Nat) (n_weights : Nat) (n_kindOf : Nat) (n_light : Nat) (n_heavy : Nat) (n_seenBy : Nat) (n_seenCut : Nat) (n_seenFound : Nat) (v : Int32) (i : Int32) (what : Int32)  : ML l yX7_mean wsX7_mean ({ frames := 3, cells := 0, slots := 0, locals := 66 }) D k [.ref h, .int v, .int i, .int what] [(h, .inr (6, [.ref h_now, .ref h_trial, .ref h_images, .ref h_imageThere, .ref h_teller, .ref h_ranks, .ref h_court, .ref h_sheets, .int 0, .int 0])), (h_now, .inr (5, [.ref n_weights, .ref n_kindOf, .ref n_light, .ref n_heavy, .ref n_seenBy, .ref n_seenCut, .ref n_seenFound, .int 2, .int 0, .int 0, .int 0, .int 0, .int 2, .int 0, .int 0]))] sz (fun (r : Int64) (u : Unit) => r = A_luck v i what) (fun (u : Unit) => []) := by
  refine Met.ofW (cc := cX7_mean) (maxL := 4) (ret := (some .long)) (by decide) rfl ?_
  intro p e s m args below meth c s₁ B hml hv
  obtain ⟨rfl, hsz, hP, hK, hD0, hN⟩ := hv
  have hx := B.exec
  have hb := B.bytes
  have hr := B.returns
  have hlocks := B.notSynchronized
  have hts := atoms_spec (ws := wsX7_mean) B.pre
  have hown : s.vm.findClass RX7 = some m.cls := findClass_of_methodNamed B.named
  have hiX6 : ∀ w ∈ u_ws RX6 TX6 15, w ∈ wsX7_mean := by decide +kernel
  have hiX7 : ∀ w ∈ u_ws RX7 TX7 10, w ∈ wsX7_mean := by decide +kernel
  have fl10 := hts (.fieldLink RX7 10 "HalfScales" "now" "LHalfScales$Thing;") (by decide +kernel)
  have fl96 := hts (.fieldLink RX7 96 "HalfScales$Thing" "peopleCount" "I") (by decide +kernel)
  have kl235 := hts (.constantLong RX7 235 (-1)) (by decide +kernel)
  subst hsz
  have hD := hD0.self (sz := s.heap.size)
  generalize hAe : va_A [(h, .inr (6, [.ref h_now, .ref h_trial, .ref h_images, .ref h_imageThere, .ref h_teller, .ref h_ranks, .ref h_court, .ref h_sheets, .int 0, .int 0])), (h_now, .inr (5, [.ref n_weights, .ref n_kindOf, .ref n_light, .ref n_heavy, .ref n_seenBy, .ref n_seenCut, .ref n_seenFound, .int 2, .int 0, .int 0, .int 0, .int 0, .int 2, .int 0, .int 0]))] s.heap.size = A at hD ⊢
  have hA : ∀ q : Nat, s.heap.size ≤ q → A q := fun q h => by rw [← hAe]; exact Or.inr h
  have hS : va_S A s.heap s.heap [] := va_S.rf
  have hl := lv_entry ([.ref h, .int v, .int i, .int what]) (n := 4) (Nat.le_of_ble_eq_true rfl)
  rw [lg_entry_eq]
  generalize (lg_sl ([.ref h, .int v, .int i, .int what]) ++ List.replicate (4 - (lg_sl ([.ref h, .int v, .int i, .int what])).length) Slot.unset).toArray = ls at hl ⊢
  have hl : lv_has ls 4 [(0, .ref h), (1, .int v), (2, .int i), (3, .int what)] := hl
  have hP : va_P D vwCl [(h, .inr (6, [.ref h_now, .ref h_trial, .ref h_images, .ref h_imageThere, .ref h_teller, .ref h_ranks, .ref h_court, .ref h_sheets, .int 0, .int 0])), (h_now, .inr (5, [.ref n_weights, .ref n_kindOf, .ref n_light, .ref n_heavy, .ref n_seenBy, .ref n_seenCut, .ref n_seenFound, .int 2, .int 0, .int 0, .int 0, .int 0, .int 2, .int 0, .int 0]))] s.heap := hP
  refine lv_aload_n hx hb dX7_mean_0 rfl (lv_at hl 0 rfl) ?_
  refine lv_iload_n hx hb dX7_mean_1 rfl (lv_at hl 1 rfl) ?_
  refine lv_iload_n hx hb dX7_mean_2 rfl (lv_at hl 2 rfl) ?_
  refine lv_iload_n hx hb dX7_mean_3 rfl (lv_at hl 3 rfl) ?_
  refine hs_ci (va_runV (As := [.int v, .int i, .int what]) (rest := []) ⟨hx, hb, hml, hown, hts⟩ (c_isTrial0 l D k _ h h_now h_trial h_images h_imageThere h_teller h_ranks h_court h_sheets n_weights n_kindOf n_light n_heavy n_seenBy n_seenCut n_seenFound v i what) (cwV 3 hts gX7_mean_X7_isTrial rfl rfl rfl (by decide +kernel) ⟨Nat.le_of_ble_eq_true rfl, Nat.le_of_ble_eq_true rfl⟩) (hs_preV hK hN (hs_subP (w := [(h, .inr (6, [.ref h_now, .ref h_trial, .ref h_images, .ref h_imageThere, .ref h_teller, .ref h_ranks, .ref h_court, .ref h_sheets, .int 0, .int 0])), (h_now, .inr (5, [.ref n_weights, .ref n_kindOf, .ref n_light, .ref n_heavy, .ref n_seenBy, .ref n_seenCut, .ref n_seenFound, .int 2, .int 0, .int 0, .int 0, .int 0, .int 2, .int 0, .int 0]))]) hP [0, 1] rfl) (hD.sub (ws' := [(h, .inr (6, [.ref h_now, .ref h_trial, .ref h_images, .ref h_imageThere, .ref h_teller, .ref h_ranks, .ref h_court, .ref h_sheets, .int 0, .int 0])), (h_now, .inr (5, [.ref n_weights, .ref n_kindOf, .ref n_light, .ref n_heavy, .ref n_seenBy, .ref n_seenCut, .ref n_seenFound, .int 2, .int 0, .int 0, .int 0, .int 0, .int 2, .int 0, .int 0]))]) [0, 1] (by decide) rfl) (ci := 6) (q0 := 0) rfl rfl) rfl rfl hl.1 rfl (lv_room (Nat.le_of_ble_eq_true rfl)) dX7_mean_4 ⟨Nat.le_of_ble_eq_true rfl, Nat.le_of_ble_eq_true rfl⟩) hP hD hS hA [0, 1] [] [] rfl rfl (by decide) (by decide) [0, 1] (fun u_3 => [(h, .inr (6, [.ref h_now, .ref h_trial, .ref h_images, .ref h_imageThere, .ref h_teller, .ref h_ranks, .ref h_court, .ref h_sheets, .int 0, .int 0])), (h_now, .inr (5, [.ref n_weights, .ref n_kindOf, .ref n_light, .ref n_heavy, .ref n_seenBy, .ref n_seenCut, .ref n_seenFound, .int 2, .int 0, .int 0, .int 0, .int 0, .int 2, .int 0, .int 0]))]) (fun _ => rfl) (by decide) (fun r_1 u_3 H locs hw_2 hP hD hS => ?_)
  have hP : va_P D vwCl [(h, .inr (6, [.ref h_now, .ref h_trial, .ref h_images, .ref h_imageThere, .ref h_teller, .ref h_ranks, .ref h_court, .ref h_sheets, .int 0, .int 0])), (h_now, .inr (5, [.ref n_weights, .ref n_kindOf, .ref n_light, .ref n_heavy, .ref n_seenBy, .ref n_seenCut, .ref n_seenFound, .int 2, .int 0, .int 0, .int 0, .int 0, .int 2, .int 0, .int 0]))] H := hP
  have hD : va_D A [(h, .inr (6, [.ref h_now, .ref h_trial, .ref h_images, .ref h_imageThere, .ref h_teller, .ref h_ranks, .ref h_court, .ref h_sheets, .int 0, .int 0])), (h_now, .inr (5, [.ref n_weights, .ref n_kindOf, .ref n_light, .ref n_heavy, .ref n_seenBy, .ref n_seenCut, .ref n_seenFound, .int 2, .int 0, .int 0, .int 0, .int 0, .int 2, .int 0, .int 0]))] := hD
  refine hs_topi (hsb (hsin v 0 10 && hsin i 1 1 && hsin what 0 1)) hw_2 ?_
  refine lv_if_ne (tgt := 14) hx hb dX7_mean_7 (by decide) (fun c_4 => ?_) (fun c_4 => ?_)
  · obtain rfl : i = 1 := hs_one (hs_and2 (hs_and1 (hs_nb c_4)))
    refine lv_iload_n hx hb dX7_mean_14 rfl (lv_at hl 1 rfl) ?_
    rcases hs_v01 (hs_and2 (hs_nb c_4)) with rfl | rfl
    · refine lv_aload_n hx hb dX7_mean_15 rfl (lv_at hl 0 rfl) ?_
      refine va_get (D := D) (ci := 6) (v := .ref h_now) (C := RX7) (T := TX7) (N := 10) hx hb hts hiX7 hown hK hP 0 rfl rfl 0 (by decide) fl10 (fun _ h9 => h9) rfl dX7_mean_16 ?_
      refine lv_iload_n hx hb dX7_mean_19 rfl (lv_at hl 2 rfl) ?_
      refine hs_ci (va_runV (As := [.int 1]) (rest := [.int v]) ⟨hx, hb, hml, hown, hts⟩ (c_justTo0 l D k _ h_now n_weights n_kindOf n_light n_heavy n_seenBy n_seenCut n_seenFound 1) (cwV 1 hts gX7_mean_X6_justTo rfl rfl rfl (by decide +kernel) ⟨Nat.le_of_ble_eq_true rfl, Nat.le_of_ble_eq_true rfl⟩) (hs_preV hK hN (hs_subP (w := [(h_now, .inr (5, [.ref n_weights, .ref n_kindOf, .ref n_light, .ref n_heavy, .ref n_seenBy, .ref n_seenCut, .ref n_seenFound, .int 2, .int 0, .int 0, .int 0, .int 0, .int 2, .int 0, .int 0]))]) hP [1] rfl) (hD.sub (ws' := [(h_now, .inr (5, [.ref n_weights, .ref n_kindOf, .ref n_light, .ref n_heavy, .ref n_seenBy, .ref n_seenCut, .ref n_seenFound, .int 2, .int 0, .int 0, .int 0, .int 0, .int 2, .int 0, .int 0]))]) [1] (by decide) rfl) (ci := 5) (q0 := 0) rfl rfl) rfl rfl hl.1 rfl (lv_room (Nat.le_of_ble_eq_true rfl)) dX7_mean_20 ⟨Nat.le_of_ble_eq_true rfl, Nat.le_of_ble_eq_true rfl⟩) hP hD hS hA [1] [0] [(h, .inr (6, [.ref h_now, .ref h_trial, .ref h_images, .ref h_imageThere, .ref h_teller, .ref h_ranks, .ref h_court, .ref h_sheets, .int 0, .int 0]))] rfl rfl (by decide) (by decide) [0, 1] (fun u_7 => [(h, .inr (6, [.ref h_now, .ref h_trial, .ref h_images, .ref h_imageThere, .ref h_teller, .ref h_ranks, .ref h_court, .ref h_sheets, .int 0, .int 0])), (h_now, .inr (5, [.ref n_weights, .ref n_kindOf, .ref n_light, .ref n_heavy, .ref n_seenBy, .ref n_seenCut, .ref n_seenFound, .int 2, .int 0, .int 0, .int 0, .int 0, .int 2, .int 0, .int 0]))]) (fun _ => rfl) (by decide) (fun r_5 u_7 H locs hw_6 hP hD hS => ?_)
      have hP : va_P D vwCl [(h, .inr (6, [.ref h_now, .ref h_trial, .ref h_images, .ref h_imageThere, .ref h_teller, .ref h_ranks, .ref h_court, .ref h_sheets, .int 0, .int 0])), (h_now, .inr (5, [.ref n_weights, .ref n_kindOf, .ref n_light, .ref n_heavy, .ref n_seenBy, .ref n_seenCut, .ref n_seenFound, .int 2, .int 0, .int 0, .int 0, .int 0, .int 2, .int 0, .int 0]))] H := hP
      have hD : va_D A [(h, .inr (6, [.ref h_now, .ref h_trial, .ref h_images, .ref h_imageThere, .ref h_teller, .ref h_ranks, .ref h_court, .ref h_sheets, .int 0, .int 0])), (h_now, .inr (5, [.ref n_weights, .ref n_kindOf, .ref n_light, .ref n_heavy, .ref n_seenBy, .ref n_seenCut, .ref n_seenFound, .int 2, .int 0, .int 0, .int 0, .int 0, .int 2, .int 0, .int 0]))] := hD
      refine hs_topi 0 (hw_6.trans (by first | rfl | decide +kernel | rfl)) ?_
      refine lv_aload_n hx hb dX7_mean_23 rfl (lv_at hl 0 rfl) ?_
      refine va_get (D := D) (ci := 6) (v := .ref h_now) (C := RX7) (T := TX7) (N := 10) hx hb hts hiX7 hown hK hP 0 rfl rfl 0 (by decide) fl10 (fun _ h9 => h9) rfl dX7_mean_24 ?_
      refine va_get (D := D) (ci := 5) (v := .int 0) (C := RX6) (T := TX6) (N := 15) hx hb hts hiX6 hown hK hP 1 rfl rfl 8 (by decide) fl96 (fun _ h9 => h9) rfl dX7_mean_27 ?_
      refine lv_iload_n hx hb dX7_mean_30 rfl (lv_at hl 3 rfl) ?_
      refine hs_pl (va_runS (As := [.int v, .int 0, .int 0, .int 0]) (rest := []) ⟨hx, hb, hml, hown, hts⟩ (c_expected_0 l D k _ v) (va_cwS 4 hts gX7_mean_X0_expected rfl rfl rfl (by decide +kernel) ⟨Nat.le_of_ble_eq_true rfl, Nat.le_of_ble_eq_true rfl⟩) (hs_preS hK hN (hs_subP (w := []) hP [] rfl) (hD.sub (ws' := []) [] (by decide) rfl)) rfl rfl hl.1 rfl (lv_room (Nat.le_of_ble_eq_true rfl)) dX7_mean_31 ⟨Nat.le_of_ble_eq_true rfl, Nat.le_of_ble_eq_true rfl⟩) hP hD hS hA (fun r_8 u_10 H locs hw_9 hP hS => ?_)
      refine hs_topl 0 (hw_9.trans (by first | rfl | decide +kernel | rfl)) ?_
      exact hs_lret hx hb hr hlocks hK hP hD hS () [] rfl (by decide) dX7_mean_34 (by first | rfl | decide | (simp only [hsb_0, hsb_1] at c_4; simp [A_luck, c_4]; done) | (simp [A_luck, c_4]; done))
    · refine lv_aload_n hx hb dX7_mean_15 rfl (lv_at hl 0 rfl) ?_
      refine va_get (D := D) (ci := 6) (v := .ref h_now) (C := RX7) (T := TX7) (N := 10) hx hb hts hiX7 hown hK hP 0 rfl rfl 0 (by decide) fl10 (fun _ h9 => h9) rfl dX7_mean_16 ?_
      refine lv_iload_n hx hb dX7_mean_19 rfl (lv_at hl 2 rfl) ?_
      refine hs_ci (va_runV (As := [.int 1]) (rest := [.int v]) ⟨hx, hb, hml, hown, hts⟩ (c_justTo0 l D k _ h_now n_weights n_kindOf n_light n_heavy n_seenBy n_seenCut n_seenFound 1) (cwV 1 hts gX7_mean_X6_justTo rfl rfl rfl (by decide +kernel) ⟨Nat.le_of_ble_eq_true rfl, Nat.le_of_ble_eq_true rfl⟩) (hs_preV hK hN (hs_subP (w := [(h_now, .inr (5, [.ref n_weights, .ref n_kindOf, .ref n_light, .ref n_heavy, .ref n_seenBy, .ref n_seenCut, .ref n_seenFound, .int 2, .int 0, .int 0, .int 0, .int 0, .int 2, .int 0, .int 0]))]) hP [1] rfl) (hD.sub (ws' := [(h_now, .inr (5, [.ref n_weights, .ref n_kindOf, .ref n_light, .ref n_heavy, .ref n_seenBy, .ref n_seenCut, .ref n_seenFound, .int 2, .int 0, .int 0, .int 0, .int 0, .int 2, .int 0, .int 0]))]) [1] (by decide) rfl) (ci := 5) (q0 := 0) rfl rfl) rfl rfl hl.1 rfl (lv_room (Nat.le_of_ble_eq_true rfl)) dX7_mean_20 ⟨Nat.le_of_ble_eq_true rfl, Nat.le_of_ble_eq_true rfl⟩) hP hD hS hA [1] [0] [(h, .inr (6, [.ref h_now, .ref h_trial, .ref h_images, .ref h_imageThere, .ref h_teller, .ref h_ranks, .ref h_court, .ref h_sheets, .int 0, .int 0]))] rfl rfl (by decide) (by decide) [0, 1] (fun u_13 => [(h, .inr (6, [.ref h_now, .ref h_trial, .ref h_images, .ref h_imageThere, .ref h_teller, .ref h_ranks, .ref h_court, .ref h_sheets, .int 0, .int 0])), (h_now, .inr (5, [.ref n_weights, .ref n_kindOf, .ref n_light, .ref n_heavy, .ref n_seenBy, .ref n_seenCut, .ref n_seenFound, .int 2, .int 0, .int 0, .int 0, .int 0, .int 2, .int 0, .int 0]))]) (fun _ => rfl) (by decide) (fun r_11 u_13 H locs hw_12 hP hD hS => ?_)
      have hP : va_P D vwCl [(h, .inr (6, [.ref h_now, .ref h_trial, .ref h_images, .ref h_imageThere, .ref h_teller, .ref h_ranks, .ref h_court, .ref h_sheets, .int 0, .int 0])), (h_now, .inr (5, [.ref n_weights, .ref n_kindOf, .ref n_light, .ref n_heavy, .ref n_seenBy, .ref n_seenCut, .ref n_seenFound, .int 2, .int 0, .int 0, .int 0, .int 0, .int 2, .int 0, .int 0]))] H := hP
      have hD : va_D A [(h, .inr (6, [.ref h_now, .ref h_trial, .ref h_images, .ref h_imageThere, .ref h_teller, .ref h_ranks, .ref h_court, .ref h_sheets, .int 0, .int 0])), (h_now, .inr (5, [.ref n_weights, .ref n_kindOf, .ref n_light, .ref n_heavy, .ref n_seenBy, .ref n_seenCut, .ref n_seenFound, .int 2, .int 0, .int 0, .int 0, .int 0, .int 2, .int 0, .int 0]))] := hD
      refine hs_topi 0 (hw_12.trans (by first | rfl | decide +kernel | rfl)) ?_
      refine lv_aload_n hx hb dX7_mean_23 rfl (lv_at hl 0 rfl) ?_
      refine va_get (D := D) (ci := 6) (v := .ref h_now) (C := RX7) (T := TX7) (N := 10) hx hb hts hiX7 hown hK hP 0 rfl rfl 0 (by decide) fl10 (fun _ h9 => h9) rfl dX7_mean_24 ?_
      refine va_get (D := D) (ci := 5) (v := .int 0) (C := RX6) (T := TX6) (N := 15) hx hb hts hiX6 hown hK hP 1 rfl rfl 8 (by decide) fl96 (fun _ h9 => h9) rfl dX7_mean_27 ?_
      refine lv_iload_n hx hb dX7_mean_30 rfl (lv_at hl 3 rfl) ?_
      refine hs_pl (va_runS (As := [.int v, .int 0, .int 0, .int 1]) (rest := []) ⟨hx, hb, hml, hown, hts⟩ (c_expected_1 l D k _ v) (va_cwS 4 hts gX7_mean_X0_expected rfl rfl rfl (by decide +kernel) ⟨Nat.le_of_ble_eq_true rfl, Nat.le_of_ble_eq_true rfl⟩) (hs_preS hK hN (hs_subP (w := []) hP [] rfl) (hD.sub (ws' := []) [] (by decide) rfl)) rfl rfl hl.1 rfl (lv_room (Nat.le_of_ble_eq_true rfl)) dX7_mean_31 ⟨Nat.le_of_ble_eq_true rfl, Nat.le_of_ble_eq_true rfl⟩) hP hD hS hA (fun r_14 u_16 H locs hw_15 hP hS => ?_)
      refine hs_topl 1 (hw_15.trans (by first | rfl | decide +kernel | rfl)) ?_
      exact hs_lret hx hb hr hlocks hK hP hD hS () [] rfl (by decide) dX7_mean_34 (by first | rfl | decide | (simp only [hsb_0, hsb_1] at c_4; simp [A_luck, c_4]; done) | (simp [A_luck, c_4]; done))
  · refine lv_ldc2 hx hb hown kl235 dX7_mean_10 ?_
    exact hs_lret hx hb hr hlocks hK hP hD hS () [] rfl (by decide) dX7_mean_13 (by first | rfl | decide | (simp only [hsb_0, hsb_1] at c_4; simp [A_luck, c_4]; done) | (simp [A_luck, c_4]; done))

set_option maxHeartbeats 4000000 in
set_option maxRecDepth 100000 in
theorem p_see (l : Launch) (D : va_G) (k : Nat → ClassId) (sz : Nat) (h : Nat) (h_now : Nat) (h_trial : Nat) (h_images : Nat) (h_imageThere : Nat) (h_teller : Nat) (h_ranks : Nat) (h_court : Nat) (h_sheets : Nat) (n_weights : Nat) (n_kindOf : Nat) (n_light : Nat) (n_heavy : Nat) (n_seenBy : Nat) (n_seenCut : Nat) (n_seenFound : Nat) (i : Int32) (v : Int32) (what : Int32)  : MI l yX7_see wsX7_see ({ frames := 2, cells := 0, slots := 0, locals := 43 }) D k [.ref h, .int i, .int v, .int what] [(h, .inr (6, [.ref h_now, .ref h_trial, .ref h_images, .ref h_imageThere, .ref h_teller, .ref h_ranks, .ref h_court, .ref h_sheets, .int 0, .int 0])), (h_now, .inr (5, [.ref n_weights, .ref n_kindOf, .ref n_light, .ref n_heavy, .ref n_seenBy, .ref n_seenCut, .ref n_seenFound, .int 2, .int 0, .int 0, .int 0, .int 0, .int 2, .int 0, .int 0]))] sz (fun (r : Int32) (u : Unit) => r = A_see i v what) (fun (u : Unit) => []) := by
  refine Met.ofW (cc := cX7_see) (maxL := 4) (ret := (some .int)) (by decide) rfl ?_
  intro p e s m args below meth c s₁ B hml hv
  obtain ⟨rfl, hsz, hP, hK, hD0, hN⟩ := hv
  have hx := B.exec
  have hb := B.bytes
  have hr := B.returns
  have hlocks := B.notSynchronized
  have hts := atoms_spec (ws := wsX7_see) B.pre
  have hown : s.vm.findClass RX7 = some m.cls := findClass_of_methodNamed B.named
  have hiX7 : ∀ w ∈ u_ws RX7 TX7 10, w ∈ wsX7_see := by decide +kernel
  have fl10 := hts (.fieldLink RX7 10 "HalfScales" "now" "LHalfScales$Thing;") (by decide +kernel)
  subst hsz
  have hD := hD0.self (sz := s.heap.size)
  generalize hAe : va_A [(h, .inr (6, [.ref h_now, .ref h_trial, .ref h_images, .ref h_imageThere, .ref h_teller, .ref h_ranks, .ref h_court, .ref h_sheets, .int 0, .int 0])), (h_now, .inr (5, [.ref n_weights, .ref n_kindOf, .ref n_light, .ref n_heavy, .ref n_seenBy, .ref n_seenCut, .ref n_seenFound, .int 2, .int 0, .int 0, .int 0, .int 0, .int 2, .int 0, .int 0]))] s.heap.size = A at hD ⊢
  have hA : ∀ q : Nat, s.heap.size ≤ q → A q := fun q h => by rw [← hAe]; exact Or.inr h
  have hS : va_S A s.heap s.heap [] := va_S.rf
  have hl := lv_entry ([.ref h, .int i, .int v, .int what]) (n := 4) (Nat.le_of_ble_eq_true rfl)
  rw [lg_entry_eq]
  generalize (lg_sl ([.ref h, .int i, .int v, .int what]) ++ List.replicate (4 - (lg_sl ([.ref h, .int i, .int v, .int what])).length) Slot.unset).toArray = ls at hl ⊢
  have hl : lv_has ls 4 [(0, .ref h), (1, .int i), (2, .int v), (3, .int what)] := hl
  have hP : va_P D vwCl [(h, .inr (6, [.ref h_now, .ref h_trial, .ref h_images, .ref h_imageThere, .ref h_teller, .ref h_ranks, .ref h_court, .ref h_sheets, .int 0, .int 0])), (h_now, .inr (5, [.ref n_weights, .ref n_kindOf, .ref n_light, .ref n_heavy, .ref n_seenBy, .ref n_seenCut, .ref n_seenFound, .int 2, .int 0, .int 0, .int 0, .int 0, .int 2, .int 0, .int 0]))] s.heap := hP
  refine lv_aload_n hx hb dX7_see_0 rfl (lv_at hl 0 rfl) ?_
  refine va_get (D := D) (ci := 6) (v := .ref h_now) (C := RX7) (T := TX7) (N := 10) hx hb hts hiX7 hown hK hP 0 rfl rfl 0 (by decide) fl10 (fun _ h9 => h9) rfl dX7_see_1 ?_
  refine lv_iload_n hx hb dX7_see_4 rfl (lv_at hl 1 rfl) ?_
  refine hs_ci (va_runV (As := [.int i]) (rest := []) ⟨hx, hb, hml, hown, hts⟩ (c_isPerson0 l D k _ h_now n_weights n_kindOf n_light n_heavy n_seenBy n_seenCut n_seenFound i) (cwV 1 hts gX7_see_X6_isPerson rfl rfl rfl (by decide +kernel) ⟨Nat.le_of_ble_eq_true rfl, Nat.le_of_ble_eq_true rfl⟩) (hs_preV hK hN (hs_subP (w := [(h_now, .inr (5, [.ref n_weights, .ref n_kindOf, .ref n_light, .ref n_heavy, .ref n_seenBy, .ref n_seenCut, .ref n_seenFound, .int 2, .int 0, .int 0, .int 0, .int 0, .int 2, .int 0, .int 0]))]) hP [1] rfl) (hD.sub (ws' := [(h_now, .inr (5, [.ref n_weights, .ref n_kindOf, .ref n_light, .ref n_heavy, .ref n_seenBy, .ref n_seenCut, .ref n_seenFound, .int 2, .int 0, .int 0, .int 0, .int 0, .int 2, .int 0, .int 0]))]) [1] (by decide) rfl) (ci := 5) (q0 := 0) rfl rfl) rfl rfl hl.1 rfl (lv_room (Nat.le_of_ble_eq_true rfl)) dX7_see_5 ⟨Nat.le_of_ble_eq_true rfl, Nat.le_of_ble_eq_true rfl⟩) hP hD hS hA [1] [0] [(h, .inr (6, [.ref h_now, .ref h_trial, .ref h_images, .ref h_imageThere, .ref h_teller, .ref h_ranks, .ref h_court, .ref h_sheets, .int 0, .int 0]))] rfl rfl (by decide) (by decide) [0, 1] (fun u_3 => [(h, .inr (6, [.ref h_now, .ref h_trial, .ref h_images, .ref h_imageThere, .ref h_teller, .ref h_ranks, .ref h_court, .ref h_sheets, .int 0, .int 0])), (h_now, .inr (5, [.ref n_weights, .ref n_kindOf, .ref n_light, .ref n_heavy, .ref n_seenBy, .ref n_seenCut, .ref n_seenFound, .int 2, .int 0, .int 0, .int 0, .int 0, .int 2, .int 0, .int 0]))]) (fun _ => rfl) (by decide) (fun r_1 u_3 H locs hw_2 hP hD hS => ?_)
  have hP : va_P D vwCl [(h, .inr (6, [.ref h_now, .ref h_trial, .ref h_images, .ref h_imageThere, .ref h_teller, .ref h_ranks, .ref h_court, .ref h_sheets, .int 0, .int 0])), (h_now, .inr (5, [.ref n_weights, .ref n_kindOf, .ref n_light, .ref n_heavy, .ref n_seenBy, .ref n_seenCut, .ref n_seenFound, .int 2, .int 0, .int 0, .int 0, .int 0, .int 2, .int 0, .int 0]))] H := hP
  have hD : va_D A [(h, .inr (6, [.ref h_now, .ref h_trial, .ref h_images, .ref h_imageThere, .ref h_teller, .ref h_ranks, .ref h_court, .ref h_sheets, .int 0, .int 0])), (h_now, .inr (5, [.ref n_weights, .ref n_kindOf, .ref n_light, .ref n_heavy, .ref n_seenBy, .ref n_seenCut, .ref n_seenFound, .int 2, .int 0, .int 0, .int 0, .int 0, .int 2, .int 0, .int 0]))] := hD
  refine hs_topi 0 (hw_2.trans (by first | rfl | decide +kernel | rfl)) ?_
  refine lv_if_eq (tgt := 31) hx hb dX7_see_8 (by decide) (fun c_4 => ?_) (fun c_4 => absurd c_4 (by decide))
  refine lv_iconst (v := (-1)) hx hb dX7_see_31 (by decide) ?_
  exact hs_iret hx hb hr hlocks hK hP hD hS () [] rfl (by decide) dX7_see_32 (by first | rfl | decide | (simp only [hsb_0, hsb_1] at c_4; simp [A_see, c_4]; done) | (simp [A_see, c_4]; done))

set_option maxHeartbeats 4000000 in
set_option maxRecDepth 100000 in
theorem p_forget (l : Launch) (D : va_G) (k : Nat → ClassId) (sz : Nat) (h : Nat) (h_now : Nat) (h_trial : Nat) (h_images : Nat) (h_imageThere : Nat) (h_teller : Nat) (h_ranks : Nat) (h_court : Nat) (h_sheets : Nat) (n_weights : Nat) (n_kindOf : Nat) (n_light : Nat) (n_heavy : Nat) (n_seenBy : Nat) (n_seenCut : Nat) (n_seenFound : Nat) (n : Int32)  : MI l yX7_forget wsX7_forget ({ frames := 1, cells := 0, slots := 0, locals := 22 }) D k [.ref h, .int n] [(h, .inr (6, [.ref h_now, .ref h_trial, .ref h_images, .ref h_imageThere, .ref h_teller, .ref h_ranks, .ref h_court, .ref h_sheets, .int 0, .int 0])), (h_now, .inr (5, [.ref n_weights, .ref n_kindOf, .ref n_light, .ref n_heavy, .ref n_seenBy, .ref n_seenCut, .ref n_seenFound, .int 2, .int 0, .int 0, .int 0, .int 0, .int 2, .int 0, .int 0]))] sz (fun (r : Int32) (u : Unit) => r = A_forget n) (fun (u : Unit) => []) := by
  refine Met.ofW (cc := cX7_forget) (maxL := 3) (ret := (some .int)) (by decide) rfl ?_
  intro p e s m args below meth c s₁ B hml hv
  obtain ⟨rfl, hsz, hP, hK, hD0, hN⟩ := hv
  have hx := B.exec
  have hb := B.bytes
  have hr := B.returns
  have hlocks := B.notSynchronized
  have hts := atoms_spec (ws := wsX7_forget) B.pre
  have hown : s.vm.findClass RX7 = some m.cls := findClass_of_methodNamed B.named
  have hiX6 : ∀ w ∈ u_ws RX6 TX6 15, w ∈ wsX7_forget := by decide +kernel
  have hiX7 : ∀ w ∈ u_ws RX7 TX7 10, w ∈ wsX7_forget := by decide +kernel
  have fl10 := hts (.fieldLink RX7 10 "HalfScales" "now" "LHalfScales$Thing;") (by decide +kernel)
  have fl244 := hts (.fieldLink RX7 244 "HalfScales$Thing" "seenCount" "I") (by decide +kernel)
  subst hsz
  have hD := hD0.self (sz := s.heap.size)
  generalize hAe : va_A [(h, .inr (6, [.ref h_now, .ref h_trial, .ref h_images, .ref h_imageThere, .ref h_teller, .ref h_ranks, .ref h_court, .ref h_sheets, .int 0, .int 0])), (h_now, .inr (5, [.ref n_weights, .ref n_kindOf, .ref n_light, .ref n_heavy, .ref n_seenBy, .ref n_seenCut, .ref n_seenFound, .int 2, .int 0, .int 0, .int 0, .int 0, .int 2, .int 0, .int 0]))] s.heap.size = A at hD ⊢
  have hA : ∀ q : Nat, s.heap.size ≤ q → A q := fun q h => by rw [← hAe]; exact Or.inr h
  have hS : va_S A s.heap s.heap [] := va_S.rf
  have hl := lv_entry ([.ref h, .int n]) (n := 3) (Nat.le_of_ble_eq_true rfl)
  rw [lg_entry_eq]
  generalize (lg_sl ([.ref h, .int n]) ++ List.replicate (3 - (lg_sl ([.ref h, .int n])).length) Slot.unset).toArray = ls at hl ⊢
  have hl : lv_has ls 3 [(0, .ref h), (1, .int n)] := hl
  have hP : va_P D vwCl [(h, .inr (6, [.ref h_now, .ref h_trial, .ref h_images, .ref h_imageThere, .ref h_teller, .ref h_ranks, .ref h_court, .ref h_sheets, .int 0, .int 0])), (h_now, .inr (5, [.ref n_weights, .ref n_kindOf, .ref n_light, .ref n_heavy, .ref n_seenBy, .ref n_seenCut, .ref n_seenFound, .int 2, .int 0, .int 0, .int 0, .int 0, .int 2, .int 0, .int 0]))] s.heap := hP
  refine lv_iload_n hx hb dX7_forget_0 rfl (lv_at hl 1 rfl) ?_
  refine lv_iconst (v := 0) hx hb dX7_forget_1 (by decide) ?_
  refine lv_aload_n hx hb dX7_forget_2 rfl (lv_at hl 0 rfl) ?_
  refine va_get (D := D) (ci := 6) (v := .ref h_now) (C := RX7) (T := TX7) (N := 10) hx hb hts hiX7 hown hK hP 0 rfl rfl 0 (by decide) fl10 (fun _ h9 => h9) rfl dX7_forget_3 ?_
  refine va_get (D := D) (ci := 5) (v := .int 0) (C := RX6) (T := TX6) (N := 15) hx hb hts hiX6 hown hK hP 1 rfl rfl 14 (by decide) fl244 (fun _ h9 => h9) rfl dX7_forget_6 ?_
  refine hs_pi (va_runS (As := [.int n, .int 0, .int 0]) (rest := []) ⟨hx, hb, hml, hown, hts⟩ (c_within l D k _ n 0 0) (va_cwS 3 hts gX7_forget_X7_within rfl rfl rfl (by decide +kernel) ⟨Nat.le_of_ble_eq_true rfl, Nat.le_of_ble_eq_true rfl⟩) (hs_preS hK hN (hs_subP (w := []) hP [] rfl) (hD.sub (ws' := []) [] (by decide) rfl)) rfl rfl hl.1 rfl (lv_room (Nat.le_of_ble_eq_true rfl)) dX7_forget_9 ⟨Nat.le_of_ble_eq_true rfl, Nat.le_of_ble_eq_true rfl⟩) hP hD hS hA (fun r_1 u_3 H locs hw_2 hP hS => ?_)
  refine hs_topi (hsb (hsin n 0 0)) hw_2 ?_
  refine lv_if_ne (tgt := 17) hx hb dX7_forget_12 (by decide) (fun c_4 => ?_) (fun c_4 => ?_)
  · obtain rfl : n = 0 := hs_one (hs_nb c_4)
    refine lv_aload_n hx hb dX7_forget_17 rfl (lv_at hl 0 rfl) ?_
    refine va_get (D := D) (ci := 6) (v := .ref h_now) (C := RX7) (T := TX7) (N := 10) hx hb hts hiX7 hown hK hP 0 rfl rfl 0 (by decide) fl10 (fun _ h9 => h9) rfl dX7_forget_18 ?_
    refine va_get (D := D) (ci := 5) (v := .int 0) (C := RX6) (T := TX6) (N := 15) hx hb hts hiX6 hown hK hP 1 rfl rfl 14 (by decide) fl244 (fun _ h9 => h9) rfl dX7_forget_21 ?_
    refine lv_istore_n (lv' := [(2, .int 0), (0, .ref h), (1, .int 0)]) hx hb dX7_forget_24 rfl hl (by decide) rfl (fun ls hl => ?_)
    refine lv_aload_n hx hb dX7_forget_25 rfl (lv_at hl 1 rfl) ?_
    refine va_get (D := D) (ci := 6) (v := .ref h_now) (C := RX7) (T := TX7) (N := 10) hx hb hts hiX7 hown hK hP 0 rfl rfl 0 (by decide) fl10 (fun _ h9 => h9) rfl dX7_forget_26 ?_
    refine lv_iload_n hx hb dX7_forget_29 rfl (lv_at hl 2 rfl) ?_
    refine va_put (D := D) (ci := 5) (v := .int 0) (ty := .int) (C := RX6) (T := TX6) (N := 15) hx hb hts hiX6 tyX6 tyX6_ok nmX6 hown hK hP hD hS 1 rfl rfl 14 (by decide) fl244 (fun _ h9 => h9) rfl (by decide +kernel) rfl rfl (Nat.le_of_ble_eq_true rfl) dX7_forget_30 (fun H locs hP hD hS => ?_)
    have hP : va_P D vwCl [(h, .inr (6, [.ref h_now, .ref h_trial, .ref h_images, .ref h_imageThere, .ref h_teller, .ref h_ranks, .ref h_court, .ref h_sheets, .int 0, .int 0])), (h_now, .inr (5, [.ref n_weights, .ref n_kindOf, .ref n_light, .ref n_heavy, .ref n_seenBy, .ref n_seenCut, .ref n_seenFound, .int 2, .int 0, .int 0, .int 0, .int 0, .int 2, .int 0, .int 0]))] H := hP
    have hD : va_D A [(h, .inr (6, [.ref h_now, .ref h_trial, .ref h_images, .ref h_imageThere, .ref h_teller, .ref h_ranks, .ref h_court, .ref h_sheets, .int 0, .int 0])), (h_now, .inr (5, [.ref n_weights, .ref n_kindOf, .ref n_light, .ref n_heavy, .ref n_seenBy, .ref n_seenCut, .ref n_seenFound, .int 2, .int 0, .int 0, .int 0, .int 0, .int 2, .int 0, .int 0]))] := hD
    refine lv_iload_n hx hb dX7_forget_33 rfl (lv_at hl 0 rfl) ?_
    exact hs_iret hx hb hr hlocks hK hP hD hS () [] rfl (by decide) dX7_forget_34 (by first | rfl | decide | (simp only [hsb_0, hsb_1] at c_4; simp [A_forget, c_4]; done) | (simp [A_forget, c_4]; done))
  · refine lv_iconst (v := (-1)) hx hb dX7_forget_15 (by decide) ?_
    exact hs_iret hx hb hr hlocks hK hP hD hS () [] rfl (by decide) dX7_forget_16 (by first | rfl | decide | (simp only [hsb_0, hsb_1] at c_4; simp [A_forget, c_4]; done) | (simp [A_forget, c_4]; done))
