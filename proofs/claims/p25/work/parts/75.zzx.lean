set_option maxHeartbeats 4000000 in
set_option maxRecDepth 100000 in
theorem gpf_stop (l : Launch) (D : va_G) (k : Nat → ClassId) (sz : Nat) (h : Nat) (h_now : Nat) (h_trial : Nat) (h_images : Nat) (h_imageThere : Nat) (h_teller : Nat) (h_ranks : Nat) (h_court : Nat) (h_sheets : Nat) (h_lf : Int32) (h_lt : Int32) (n_a : Nat → Nat) (n_N : Nat → Nat) (n_J : Nat → Int32) (a : Int32) (what : Int32) (hJ1 : vp_in (n_J 1) 100) : MI l yX7_stop wsX7_stop ({ frames := 1, cells := 0, slots := 0, locals := 22 }) D k [.ref h, .int a, .int what] [oq6 h h_now h_trial h_images h_imageThere h_teller h_ranks h_court h_sheets h_lf h_lt, oqT h_now n_a n_N n_J] sz (fun (r : Int32) (u : Unit) => A_soC (n_J 1) a what r) (fun (u : Unit) => [oq6 h h_now h_trial h_images h_imageThere h_teller h_ranks h_court h_sheets h_lf h_lt, oqT h_now n_a n_N n_J]) := by
  refine Met.ofW (cc := cX7_stop) (maxL := 7) (ret := (some .int)) hpn_X7 rfl ?_
  intro p e s m args below meth c s₁ B hml hv
  obtain ⟨rfl, hsz, hP, hK, hD0, hN⟩ := hv
  have hx := B.exec
  have hb := B.bytes
  have hr := B.returns
  have hlocks := B.notSynchronized
  have hts := atoms_spec (ws := wsX7_stop) B.pre
  have hown := findClass_of_methodNamed B.named
  have hown : s.vm.findClass RX7 = some m.cls := hown
  have hiX6 : ∀ w ∈ u_ws RX6 TX6 15, w ∈ wsX7_stop := fun w9 hw9 => List.mem_cons_of_mem _ (igX6 w9 hw9)
  have hiX7 : ∀ w ∈ u_ws RX7 TX7 10, w ∈ wsX7_stop := fun w9 hw9 => List.mem_cons_of_mem _ (igX7 w9 hw9)
  have fl10 := hts (.fieldLink RX7 10 "HalfScales" "now" "LHalfScales$Thing;") (List.mem_cons_of_mem _ (hs_inG 1 215 rfl rfl))
  have fl102 := hts (.fieldLink RX7 102 "HalfScales$Thing" "fine" "I") (List.mem_cons_of_mem _ (hs_inG 1 65 rfl rfl))
  subst hsz
  have hD := hD0.self (sz := s.heap.size)
  generalize hAe : va_A [oq6 h h_now h_trial h_images h_imageThere h_teller h_ranks h_court h_sheets h_lf h_lt, oqT h_now n_a n_N n_J] s.heap.size = A at hD ⊢
  have hA : ∀ q : Nat, s.heap.size ≤ q → A q := fun q h => by rw [← hAe]; exact Or.inr h
  have hS : va_S A s.heap s.heap [] := va_S.rf
  have hl := lv_entry ([.ref h, .int a, .int what]) (n := 7) (Nat.le_of_ble_eq_true rfl)
  rw [lg_entry_eq]
  generalize (lg_sl ([.ref h, .int a, .int what]) ++ List.replicate (7 - (lg_sl ([.ref h, .int a, .int what])).length) Slot.unset).toArray = ls at hl ⊢
  have hl : lv_has ls 7 [(0, .ref h), (1, .int a), (2, .int what)] := hl
  have hP : va_P D vwCl [oq6 h h_now h_trial h_images h_imageThere h_teller h_ranks h_court h_sheets h_lf h_lt, oqT h_now n_a n_N n_J] s.heap := hP
  refine lv_iload_n hx hb dX7_stop_0 rfl (lv_at hl 1 rfl) ?_
  refine lv_iconst (v := 0) hx hb dX7_stop_1 hki_0 ?_
  refine lv_bipush (v := 99) hx hb dX7_stop_2 hkb_99 ?_
  refine hs_pi (va_runS (As := [.int a, .int 0, .int 99]) (rest := []) ⟨hx, hb, hml, hown, hts⟩ (g_within l D k _ a 0 99) (va_cwS 3 hts gX7_stop_X7_within rfl rfl rfl hq_X7_within ⟨Nat.le_of_ble_eq_true rfl, Nat.le_of_ble_eq_true rfl⟩) (hs_preS hK hN (hs_subP (w := []) hP [] rfl) (hD.sub (ws' := []) [] rfl rfl)) rfl rfl hl.1 rfl (lv_room (Nat.le_of_ble_eq_true rfl)) dX7_stop_4 ⟨Nat.le_of_ble_eq_true rfl, Nat.le_of_ble_eq_true rfl⟩) hP hD hS hA (fun r_1 u_3 H locs hw_2 hP hS => ?_)
  refine hs_topi (hsb (hsin a 0 99)) hw_2 ?_
  refine lv_if_eq (tgt := 19) hx hb dX7_stop_7 rfl (fun c_4 => ?_) (fun c_4 => ?_)
  · refine lv_iconst (v := (-1)) hx hb dX7_stop_19 hki_m1 ?_
    exact hs_iret hx hb hr hlocks hK hP hD hS () [0, 1] rfl (hs_upnd rfl) dX7_stop_20 (Or.inl ⟨by rw [hs_n0 c_4, Bool.false_and], rfl⟩)
  · refine lv_iload_n hx hb dX7_stop_10 rfl (lv_at hl 2 rfl) ?_
    refine lv_iconst (v := 0) hx hb dX7_stop_11 hki_0 ?_
    refine lv_iconst (v := 1) hx hb dX7_stop_12 hki_1 ?_
    refine hs_pi (va_runS (As := [.int what, .int 0, .int 1]) (rest := []) ⟨hx, hb, hml, hown, hts⟩ (g_within l D k _ what 0 1) (va_cwS 3 hts gX7_stop_X7_within rfl rfl rfl hq_X7_within ⟨Nat.le_of_ble_eq_true rfl, Nat.le_of_ble_eq_true rfl⟩) (hs_preS hK hN (hs_subP (w := []) hP [] rfl) (hD.sub (ws' := []) [] rfl rfl)) rfl rfl hl.1 rfl (lv_room (Nat.le_of_ble_eq_true rfl)) dX7_stop_13 ⟨Nat.le_of_ble_eq_true rfl, Nat.le_of_ble_eq_true rfl⟩) hP hD hS hA (fun r_5 u_7 H locs hw_6 hP hS => ?_)
    refine hs_topi (hsb (hsin what 0 1)) hw_6 ?_
    refine lv_if_ne (tgt := 21) hx hb dX7_stop_16 rfl (fun c_8 => ?_) (fun c_8 => ?_)
    · refine lv_aload_n hx hb dX7_stop_21 rfl (lv_at hl 0 rfl) ?_
      refine va_get (D := D) (ci := 6) (v := .ref h_now) (C := RX7) (T := TX7) (N := 10) hx hb hts hiX7 hown hK hP 0 rfl rfl 0 (Nat.le_of_ble_eq_true rfl) fl10 (fun _ h9 => h9) rfl dX7_stop_22 ?_
      refine va_get (D := D) (ci := 5) (v := .int (n_J 1)) (C := RX6) (T := TX6) (N := 15) hx hb hts hiX6 hown hK hP 1 rfl rfl 10 (Nat.le_of_ble_eq_true rfl) fl102 (fun _ h9 => h9) rfl dX7_stop_25 ?_
      refine lv_istore_n (lv' := [(3, .int (n_J 1)), (0, .ref h), (1, .int a), (2, .int what)]) hx hb dX7_stop_28 rfl hl (Nat.le_of_ble_eq_true rfl) rfl (fun ls hl => ?_)
      refine lv_iconst (v := 0) hx hb dX7_stop_29 hki_0 ?_
      refine lv_istore (lv' := [(4, .int 0), (3, .int (n_J 1)), (0, .ref h), (1, .int a), (2, .int what)]) hx hb dX7_stop_30 hl (Nat.le_of_ble_eq_true rfl) rfl (fun ls hl => ?_)
      refine lv_iload_n hx hb dX7_stop_32 rfl (lv_at hl 1 rfl) ?_
      refine lv_istore (lv' := [(5, .int (n_J 1)), (4, .int 0), (3, .int (n_J 1)), (0, .ref h), (1, .int a), (2, .int what)]) hx hb dX7_stop_33 hl (Nat.le_of_ble_eq_true rfl) rfl (fun ls hl => ?_)
      refine lv_iconst (v := 1) hx hb dX7_stop_35 hki_1 ?_
      refine lv_istore (lv' := [(6, .int 1), (5, .int (n_J 1)), (4, .int 0), (3, .int (n_J 1)), (0, .ref h), (1, .int a), (2, .int what)]) hx hb dX7_stop_36 hl (Nat.le_of_ble_eq_true rfl) rfl (fun ls hl => ?_)
      refine hs_while (σ := Int32 × Int32 × Int32 × Nat) (fun x => 1 ≤ x.2.2.2 ∧ x.2.2.2 ≤ 100 ∧ x.1 = (A_st a (n_J 1) (x.2.2.2 - 1)).1 ∧ x.2.1 = (A_st a (n_J 1) (x.2.2.2 - 1)).2.1 ∧ x.2.2.1 = (A_st a (n_J 1) (x.2.2.2 - 1)).2.2 ∧ ∀ j, j < x.2.2.2 - 1 → ¬ (A_st a (n_J 1) j).1 ≤ 1) (fun x => 101 - x.2.2.2) (fun x => [oq6 h h_now h_trial h_images h_imageThere h_teller h_ranks h_court h_sheets h_lf h_lt, oqT h_now n_a n_N n_J]) (fun x => [(6, .int (nI (x.2.2.2))), (5, .int (x.2.2.1)), (4, .int (x.2.1)), (3, .int (x.1)), (0, .ref h), (1, .int a), (2, .int what)]) ?_ (n_J 1, 0, n_J 1, 1) ?_ hP hD hS hl
      · intro x hI ih38 H locs ls hP hD hS hl
        obtain ⟨fi, best, least, nn⟩ := x
        try dsimp only at hI
        have hP : va_P D vwCl [oq6 h h_now h_trial h_images h_imageThere h_teller h_ranks h_court h_sheets h_lf h_lt, oqT h_now n_a n_N n_J] H := hP
        have hD : va_D A [oq6 h h_now h_trial h_images h_imageThere h_teller h_ranks h_court h_sheets h_lf h_lt, oqT h_now n_a n_N n_J] := hD
        have hl : lv_has ls 7 [(6, .int (nI nn)), (5, .int least), (4, .int best), (3, .int fi), (0, .ref h), (1, .int a), (2, .int what)] := hl
        refine lv_iload hx hb dX7_stop_38 (lv_at hl 0 rfl) ?_
        refine lv_bipush (v := 99) hx hb dX7_stop_40 hkb_99 ?_
        refine lv_icmp_gt (tgt := 84) hx hb dX7_stop_42 rfl (fun c_9 => ?_) (fun c_9 => ?_)
        · have nc_9 : 99 < nn := (nI_ltI (a := 99) (b := nn) (by omega) (by omega)).mp c_9
          refine lv_iload_n hx hb dX7_stop_84 rfl (lv_at hl 6 rfl) ?_
          refine lv_if_ne (tgt := 93) hx hb dX7_stop_85 rfl (fun c_10 => ?_) (fun c_10 => ?_)
          · refine lv_iload hx hb dX7_stop_93 (lv_at hl 1 rfl) ?_
            exact hs_iret hx hb hr hlocks hK hP hD hS () [0, 1] rfl (hs_upnd rfl) dX7_stop_95 (absurd (A_st7 hJ1) (hI.2.2.2.2.2 7 (by omega)))
          · refine lv_iload hx hb dX7_stop_88 (lv_at hl 2 rfl) ?_
            refine lv_goto (tgt := 95) hx hb dX7_stop_90 rfl ?_
            exact hs_iret hx hb hr hlocks hK hP hD hS () [0, 1] rfl (hs_upnd rfl) dX7_stop_95 (absurd (A_st7 hJ1) (hI.2.2.2.2.2 7 (by omega)))
        · have nc_9 : ¬ 99 < nn := fun hq9 => c_9 ((nI_ltI (a := 99) (b := nn) (by omega) (by omega)).mpr hq9)
          refine lv_iload_n hx hb dX7_stop_45 rfl (lv_at hl 3 rfl) ?_
          refine lv_iconst (v := 1) hx hb dX7_stop_46 hki_1 ?_
          refine lv_icmp_le (tgt := 84) hx hb dX7_stop_47 rfl (fun c_11 => ?_) (fun c_11 => ?_)
          · refine lv_iload_n hx hb dX7_stop_84 rfl (lv_at hl 6 rfl) ?_
            refine lv_if_ne (tgt := 93) hx hb dX7_stop_85 rfl (fun c_12 => ?_) (fun c_12 => ?_)
            · refine lv_iload hx hb dX7_stop_93 (lv_at hl 1 rfl) ?_
              exact hs_iret hx hb hr hlocks hK hP hD hS () [0, 1] rfl (hs_upnd rfl) dX7_stop_95 (Or.inr ⟨(by rw [hs_nb c_4, hs_nb c_8]; rfl), nn - 1, by rw [← hI.2.2.1]; exact c_11, hI.2.2.2.2.2, by rw [if_neg c_12]; exact hI.2.2.2.2.1⟩)
            · refine lv_iload hx hb dX7_stop_88 (lv_at hl 2 rfl) ?_
              refine lv_goto (tgt := 95) hx hb dX7_stop_90 rfl ?_
              exact hs_iret hx hb hr hlocks hK hP hD hS () [0, 1] rfl (hs_upnd rfl) dX7_stop_95 (Or.inr ⟨(by rw [hs_nb c_4, hs_nb c_8]; rfl), nn - 1, by rw [← hI.2.2.1]; exact c_11, hI.2.2.2.2.2, by rw [if_pos c_12]; exact hI.2.2.2.1⟩)
          · refine lv_iload_n hx hb dX7_stop_50 rfl (lv_at hl 3 rfl) ?_
            refine hs_pi (va_runS (As := [.int fi]) (rest := []) ⟨hx, hb, hml, hown, hts⟩ (g_halfUp l D k _ fi) (va_cwS 1 hts gX7_stop_X7_halfUp rfl rfl rfl hq_X7_halfUp ⟨Nat.le_of_ble_eq_true rfl, Nat.le_of_ble_eq_true rfl⟩) (hs_preS hK hN (hs_subP (w := []) hP [] rfl) (hD.sub (ws' := []) [] rfl rfl)) rfl rfl hl.1 rfl (lv_room (Nat.le_of_ble_eq_true rfl)) dX7_stop_51 ⟨Nat.le_of_ble_eq_true rfl, Nat.le_of_ble_eq_true rfl⟩) hP hD hS hA (fun r_13 u_15 H locs hw_14 hP hS => ?_)
            refine hs_topi ((fi + 1) / 2) hw_14 ?_
            refine lv_istore_n (lv' := [(3, .int ((fi + 1) / 2)), (6, .int (nI nn)), (5, .int least), (4, .int best), (0, .ref h), (1, .int a), (2, .int what)]) hx hb dX7_stop_54 rfl hl (Nat.le_of_ble_eq_true rfl) rfl (fun ls hl => ?_)
            refine lv_iload_n hx hb dX7_stop_55 rfl (lv_at hl 0 rfl) ?_
            refine lv_iload hx hb dX7_stop_56 (lv_at hl 1 rfl) ?_
            refine lv_iload_n hx hb dX7_stop_58 rfl (lv_at hl 5 rfl) ?_
            refine lv_imul hx hb dX7_stop_59 ?_
            refine lv_iadd hx hb dX7_stop_60 ?_
            refine lv_iload hx hb dX7_stop_61 (lv_at hl 2 rfl) ?_
            refine lv_icmp_ge (tgt := 78) hx hb dX7_stop_63 rfl (fun c_16 => ?_) (fun c_16 => ?_)
            · refine lv_iinc (v := nI (nn + 1)) (lv' := [(6, .int (nI (nn + 1))), (3, .int ((fi + 1) / 2)), (5, .int least), (4, .int best), (0, .ref h), (1, .int a), (2, .int what)]) hx hb dX7_stop_78 hl (k := 1) rfl (nI_add (nn) 1) (Nat.le_of_ble_eq_true rfl) rfl (fun ls hl => ?_)
              refine lv_goto (tgt := 38) hx hb dX7_stop_81 rfl ?_
              exact ih38 ((fi + 1) / 2, best, least, nn + 1) (by (try dsimp only); exact ⟨by omega, by omega, by rw [A_st_s _ _ hI.1, if_neg (by rw [← hI.2.2.1, ← hI.2.2.2.2.1]; exact Int32.not_lt.mpr c_16)]; (try rw [← hI.2.2.1]); try rfl, by rw [A_st_s _ _ hI.1, if_neg (by rw [← hI.2.2.1, ← hI.2.2.2.2.1]; exact Int32.not_lt.mpr c_16)]; exact hI.2.2.2.1, by rw [A_st_s _ _ hI.1, if_neg (by rw [← hI.2.2.1, ← hI.2.2.2.2.1]; exact Int32.not_lt.mpr c_16)]; exact hI.2.2.2.2.1, fun j hj => (by rcases (show j < nn - 1 ∨ j = nn - 1 by omega) with z9 | z9; exact hI.2.2.2.2.2 j z9; rw [z9, ← hI.2.2.1]; exact c_11)⟩) (by (try dsimp only); omega) _ _ _ hP hD hS (lv_sub hl [0, 2, 3, 1, 4, 5, 6] rfl)
            · refine lv_iload hx hb dX7_stop_66 (lv_at hl 1 rfl) ?_
              refine lv_istore (lv' := [(4, .int (nI nn)), (3, .int ((fi + 1) / 2)), (6, .int (nI nn)), (5, .int least), (0, .ref h), (1, .int a), (2, .int what)]) hx hb dX7_stop_68 hl (Nat.le_of_ble_eq_true rfl) rfl (fun ls hl => ?_)
              refine lv_iload_n hx hb dX7_stop_70 rfl (lv_at hl 1 rfl) ?_
              refine lv_iload hx hb dX7_stop_71 (lv_at hl 2 rfl) ?_
              refine lv_iload_n hx hb dX7_stop_73 rfl (lv_at hl 5 rfl) ?_
              refine lv_imul hx hb dX7_stop_74 ?_
              refine lv_iadd hx hb dX7_stop_75 ?_
              refine lv_istore (lv' := [(5, .int (((fi + 1) / 2) + ((nI nn) * a))), (4, .int (nI nn)), (3, .int ((fi + 1) / 2)), (6, .int (nI nn)), (0, .ref h), (1, .int a), (2, .int what)]) hx hb dX7_stop_76 hl (Nat.le_of_ble_eq_true rfl) rfl (fun ls hl => ?_)
              refine lv_iinc (v := nI (nn + 1)) (lv' := [(6, .int (nI (nn + 1))), (5, .int (((fi + 1) / 2) + ((nI nn) * a))), (4, .int (nI nn)), (3, .int ((fi + 1) / 2)), (0, .ref h), (1, .int a), (2, .int what)]) hx hb dX7_stop_78 hl (k := 3) rfl (nI_add (nn) 1) (Nat.le_of_ble_eq_true rfl) rfl (fun ls hl => ?_)
              refine lv_goto (tgt := 38) hx hb dX7_stop_81 rfl ?_
              exact ih38 ((fi + 1) / 2, nI nn, ((fi + 1) / 2) + ((nI nn) * a), nn + 1) (by (try dsimp only); exact ⟨by omega, by omega, by rw [A_st_s _ _ hI.1, if_pos (by rw [← hI.2.2.1, ← hI.2.2.2.2.1]; exact Int32.not_le.mp c_16)]; (try rw [← hI.2.2.1]); try rfl, by rw [A_st_s _ _ hI.1, if_pos (by rw [← hI.2.2.1, ← hI.2.2.2.2.1]; exact Int32.not_le.mp c_16)]; try rfl, by rw [A_st_s _ _ hI.1, if_pos (by rw [← hI.2.2.1, ← hI.2.2.2.2.1]; exact Int32.not_le.mp c_16)]; (try rw [← hI.2.2.1]); try rfl, fun j hj => (by rcases (show j < nn - 1 ∨ j = nn - 1 by omega) with z9 | z9; exact hI.2.2.2.2.2 j z9; rw [z9, ← hI.2.2.1]; exact c_11)⟩) (by (try dsimp only); omega) _ _ _ hP hD hS (lv_sub hl [0, 1, 2, 3, 4, 5, 6] rfl)
      · (try dsimp only); exact ⟨by decide, by decide, rfl, rfl, rfl, fun j hj => absurd hj (by omega)⟩
    · refine lv_iconst (v := (-1)) hx hb dX7_stop_19 hki_m1 ?_
      exact hs_iret hx hb hr hlocks hK hP hD hS () [0, 1] rfl (hs_upnd rfl) dX7_stop_20 (Or.inl ⟨by rw [hs_n0 c_8, Bool.and_false], rfl⟩)

set_option maxHeartbeats 4000000 in
set_option maxRecDepth 100000 in
theorem gqf_stop (l : Launch) (D : va_G) (k : Nat → ClassId) (sz : Nat) (mo : Nat) (mo_st : Nat) (mo_at : Nat) (mo_isKept : Nat) (mo_pe : Nat) (mo_hm : Nat) (mo_draft : Nat) (mo_dp : Nat) (mo_dh : Nat) (mo_toldLines : Int32) (mo_highest : Int32) (mo_tape : Nat) (mo_tl : Nat) (mo_ps : Nat) (mo_fr : Nat) (mo_sort : Int32) (mo_value : Int32) (mo_ft : Nat) (mo_wrongAt : Int32) (mo_row : Nat) (mo_orderMany : Int32) (mo_fo : Nat) (mo_lightest : Int32) (mo_heaviest : Int32) (mo_before : Nat) (mo_justSum : Int64) (mo_toldSum : Int64) (mo_allWays : Int64) (mo_lanes : Nat) (mo_sizes : Nat) (mo_cells : Nat) (mo_torn : Int32) (mo_had : Nat) (sf : Nat → Int32) (a : Int32) (what : Int32) (hJ2 : vp_in (sf 14) 100) : MI l yX8_stop wsX8_stop ({ frames := 2, cells := 0, slots := 0, locals := 45 }) D k [.ref mo, .int a, .int what] [oq7 mo mo_st mo_at mo_isKept (nI mo_pe) (nI mo_hm) mo_draft (nI mo_dp) (nI mo_dh) mo_toldLines mo_highest mo_tape (nI mo_tl) (nI mo_ps) (nI mo_fr) mo_sort mo_value (nI mo_ft) mo_wrongAt mo_row mo_orderMany (nI mo_fo) mo_lightest mo_heaviest mo_before mo_justSum mo_toldSum mo_allWays mo_lanes mo_sizes mo_cells mo_torn mo_had, oqI k mo_st 132 (sf)] sz (fun (r : Int32) (u : Unit) => A_soM (sf 14) a what r) (fun (u : Unit) => [oq7 mo mo_st mo_at mo_isKept (nI mo_pe) (nI mo_hm) mo_draft (nI mo_dp) (nI mo_dh) mo_toldLines mo_highest mo_tape (nI mo_tl) (nI mo_ps) (nI mo_fr) mo_sort mo_value (nI mo_ft) mo_wrongAt mo_row mo_orderMany (nI mo_fo) mo_lightest mo_heaviest mo_before mo_justSum mo_toldSum mo_allWays mo_lanes mo_sizes mo_cells mo_torn mo_had, oqI k mo_st 132 (sf)]) := by
  refine Met.ofW (cc := cX8_stop) (maxL := 7) (ret := (some .int)) hpn_X8 rfl ?_
  intro p e s m args below meth c s₁ B hml hv
  obtain ⟨rfl, hsz, hP, hK, hD0, hN⟩ := hv
  have hx := B.exec
  have hb := B.bytes
  have hr := B.returns
  have hlocks := B.notSynchronized
  have hts := atoms_spec (ws := wsX8_stop) B.pre
  have hown := findClass_of_methodNamed B.named
  have hown : s.vm.findClass RX8 = some m.cls := hown
  have hiX8 : ∀ w ∈ u_ws RX8 TX8 32, w ∈ wsX8_stop := fun w9 hw9 => List.mem_cons_of_mem _ (igX8 w9 hw9)
  have fl7 := hts (.fieldLink RX8 7 "HalfScalesModel" "st" "[I") (List.mem_cons_of_mem _ (hs_inG 4 80 rfl rfl))
  have kl199 := hts (.constantLong RX8 199 (99)) (List.mem_cons_of_mem _ (hs_inG 5 87 rfl rfl))
  subst hsz
  have hD := hD0.self (sz := s.heap.size)
  generalize hAe : va_A [oq7 mo mo_st mo_at mo_isKept (nI mo_pe) (nI mo_hm) mo_draft (nI mo_dp) (nI mo_dh) mo_toldLines mo_highest mo_tape (nI mo_tl) (nI mo_ps) (nI mo_fr) mo_sort mo_value (nI mo_ft) mo_wrongAt mo_row mo_orderMany (nI mo_fo) mo_lightest mo_heaviest mo_before mo_justSum mo_toldSum mo_allWays mo_lanes mo_sizes mo_cells mo_torn mo_had, oqI k mo_st 132 (sf)] s.heap.size = A at hD ⊢
  have hA : ∀ q : Nat, s.heap.size ≤ q → A q := fun q h => by rw [← hAe]; exact Or.inr h
  have hS : va_S A s.heap s.heap [] := va_S.rf
  have hl := lv_entry ([.ref mo, .int a, .int what]) (n := 7) (Nat.le_of_ble_eq_true rfl)
  rw [lg_entry_eq]
  generalize (lg_sl ([.ref mo, .int a, .int what]) ++ List.replicate (7 - (lg_sl ([.ref mo, .int a, .int what])).length) Slot.unset).toArray = ls at hl ⊢
  have hl : lv_has ls 7 [(0, .ref mo), (1, .int a), (2, .int what)] := hl
  have hP : va_P D vwCl [oq7 mo mo_st mo_at mo_isKept (nI mo_pe) (nI mo_hm) mo_draft (nI mo_dp) (nI mo_dh) mo_toldLines mo_highest mo_tape (nI mo_tl) (nI mo_ps) (nI mo_fr) mo_sort mo_value (nI mo_ft) mo_wrongAt mo_row mo_orderMany (nI mo_fo) mo_lightest mo_heaviest mo_before mo_justSum mo_toldSum mo_allWays mo_lanes mo_sizes mo_cells mo_torn mo_had, oqI k mo_st 132 (sf)] s.heap := hP
  refine lv_iload_n hx hb dX8_stop_0 rfl (lv_at hl 1 rfl) ?_
  refine lv_i2l hx hb dX8_stop_1 rfl ?_
  refine lv_lconst (v := 0) hx hb dX8_stop_2 (by decide) ?_
  refine lv_ldc2 hx hb hown kl199 dX8_stop_3 ?_
  refine hs_pi (va_runS (As := [.long (((a) : Int32).toInt64), .long 0, .long 99]) (rest := []) ⟨hx, hb, hml, hown, hts⟩ (gm_in l D k _ a 0 99) (va_cwS 3 hts gX8_stop_X8_in rfl rfl rfl hq_X8_in ⟨Nat.le_of_ble_eq_true rfl, Nat.le_of_ble_eq_true rfl⟩) (hs_preS hK hN (hs_subP (w := []) hP [] rfl) (hD.sub (ws' := []) [] rfl rfl)) rfl rfl hl.1 rfl (lv_room (Nat.le_of_ble_eq_true rfl)) dX8_stop_6 ⟨Nat.le_of_ble_eq_true rfl, Nat.le_of_ble_eq_true rfl⟩) hP hD hS hA (fun r_1 u_3 H locs hw_2 hP hS => ?_)
  refine hs_topi (hsb (hsin a 0 99)) hw_2 ?_
  refine lv_if_eq (tgt := 19) hx hb dX8_stop_9 rfl (fun c_4 => ?_) (fun c_4 => ?_)
  · refine lv_iconst (v := (-1)) hx hb dX8_stop_19 hki_m1 ?_
    exact hs_iret hx hb hr hlocks hK hP hD hS () [0, 1] rfl (hs_upnd rfl) dX8_stop_20 (Or.inl ⟨by rw [hs_n0 c_4, Bool.false_and], rfl⟩)
  · refine lv_iload_n hx hb dX8_stop_12 rfl (lv_at hl 2 rfl) ?_
    refine hs_pi (va_runS (As := [.int what]) (rest := []) ⟨hx, hb, hml, hown, hts⟩ (gm_isPart l D k _ what) (va_cwS 1 hts gX8_stop_X8_isPart rfl rfl rfl hq_X8_isPart ⟨Nat.le_of_ble_eq_true rfl, Nat.le_of_ble_eq_true rfl⟩) (hs_preS hK hN (hs_subP (w := []) hP [] rfl) (hD.sub (ws' := []) [] rfl rfl)) rfl rfl hl.1 rfl (lv_room (Nat.le_of_ble_eq_true rfl)) dX8_stop_13 ⟨Nat.le_of_ble_eq_true rfl, Nat.le_of_ble_eq_true rfl⟩) hP hD hS hA (fun r_5 u_7 H locs hw_6 hP hS => ?_)
    refine hs_topi (hsb (hsin what 0 1)) hw_6 ?_
    refine lv_if_ne (tgt := 21) hx hb dX8_stop_16 rfl (fun c_8 => ?_) (fun c_8 => ?_)
    · refine lv_aload_n hx hb dX8_stop_21 rfl (lv_at hl 0 rfl) ?_
      refine va_get (D := D) (ci := 7) (v := .ref mo_st) (C := RX8) (T := TX8) (N := 32) hx hb hts hiX8 hown hK hP 0 rfl rfl 0 (Nat.le_of_ble_eq_true rfl) fl7 (fun _ h9 => h9) rfl dX8_stop_22 ?_
      refine lv_bipush (v := 14) hx hb dX8_stop_25 hkb_14 ?_
      refine va_iald hx hb hK hP 1 0 rfl rfl (hs_in (by decide)) dX8_stop_27 ?_
      refine hs_topi (sf 14) (by rfl) ?_
      refine lv_istore_n (lv' := [(3, .int (sf 14)), (0, .ref mo), (1, .int a), (2, .int what)]) hx hb dX8_stop_28 rfl hl (Nat.le_of_ble_eq_true rfl) rfl (fun ls hl => ?_)
      refine lv_iload_n hx hb dX8_stop_29 rfl (lv_at hl 0 rfl) ?_
      refine lv_istore (lv' := [(4, .int (sf 14)), (3, .int (sf 14)), (0, .ref mo), (1, .int a), (2, .int what)]) hx hb dX8_stop_30 hl (Nat.le_of_ble_eq_true rfl) rfl (fun ls hl => ?_)
      refine lv_iconst (v := 0) hx hb dX8_stop_32 hki_0 ?_
      refine lv_istore (lv' := [(5, .int 0), (4, .int (sf 14)), (3, .int (sf 14)), (0, .ref mo), (1, .int a), (2, .int what)]) hx hb dX8_stop_33 hl (Nat.le_of_ble_eq_true rfl) rfl (fun ls hl => ?_)
      refine lv_iconst (v := 1) hx hb dX8_stop_35 hki_1 ?_
      refine lv_istore (lv' := [(6, .int 1), (5, .int 0), (4, .int (sf 14)), (3, .int (sf 14)), (0, .ref mo), (1, .int a), (2, .int what)]) hx hb dX8_stop_36 hl (Nat.le_of_ble_eq_true rfl) rfl (fun ls hl => ?_)
      refine hs_while (σ := Int32 × Int32 × Int32 × Nat) (fun x => 1 ≤ x.2.2.2 ∧ x.2.2.2 ≤ 8 ∧ x.1 = (A_sm a (sf 14) (x.2.2.2 - 1)).1 ∧ x.2.2.1 = (A_sm a (sf 14) (x.2.2.2 - 1)).2.1 ∧ x.2.1 = (A_sm a (sf 14) (x.2.2.2 - 1)).2.2 ∧ ∀ j, j < x.2.2.2 - 1 → ¬ (A_sm a (sf 14) j).1 ≤ 1) (fun x => 9 - x.2.2.2) (fun x => [oq7 mo mo_st mo_at mo_isKept (nI mo_pe) (nI mo_hm) mo_draft (nI mo_dp) (nI mo_dh) mo_toldLines mo_highest mo_tape (nI mo_tl) (nI mo_ps) (nI mo_fr) mo_sort mo_value (nI mo_ft) mo_wrongAt mo_row mo_orderMany (nI mo_fo) mo_lightest mo_heaviest mo_before mo_justSum mo_toldSum mo_allWays mo_lanes mo_sizes mo_cells mo_torn mo_had, oqI k mo_st 132 (sf)]) (fun x => [(6, .int (nI (x.2.2.2))), (5, .int (x.2.2.1)), (4, .int (x.2.1)), (3, .int (x.1)), (0, .ref mo), (1, .int a), (2, .int what)]) ?_ (sf 14, sf 14, 0, 1) ?_ hP hD hS hl
      · intro x hI ih38 H locs ls hP hD hS hl
        obtain ⟨fx, least, fo, n6⟩ := x
        try dsimp only at hI
        have hP : va_P D vwCl [oq7 mo mo_st mo_at mo_isKept (nI mo_pe) (nI mo_hm) mo_draft (nI mo_dp) (nI mo_dh) mo_toldLines mo_highest mo_tape (nI mo_tl) (nI mo_ps) (nI mo_fr) mo_sort mo_value (nI mo_ft) mo_wrongAt mo_row mo_orderMany (nI mo_fo) mo_lightest mo_heaviest mo_before mo_justSum mo_toldSum mo_allWays mo_lanes mo_sizes mo_cells mo_torn mo_had, oqI k mo_st 132 (sf)] H := hP
        have hD : va_D A [oq7 mo mo_st mo_at mo_isKept (nI mo_pe) (nI mo_hm) mo_draft (nI mo_dp) (nI mo_dh) mo_toldLines mo_highest mo_tape (nI mo_tl) (nI mo_ps) (nI mo_fr) mo_sort mo_value (nI mo_ft) mo_wrongAt mo_row mo_orderMany (nI mo_fo) mo_lightest mo_heaviest mo_before mo_justSum mo_toldSum mo_allWays mo_lanes mo_sizes mo_cells mo_torn mo_had, oqI k mo_st 132 (sf)] := hD
        have hl : lv_has ls 7 [(6, .int (nI n6)), (5, .int fo), (4, .int least), (3, .int fx), (0, .ref mo), (1, .int a), (2, .int what)] := hl
        refine lv_iload_n hx hb dX8_stop_38 rfl (lv_at hl 3 rfl) ?_
        refine lv_iconst (v := 1) hx hb dX8_stop_39 hki_1 ?_
        refine lv_icmp_le (tgt := 99) hx hb dX8_stop_40 rfl (fun c_9 => ?_) (fun c_9 => ?_)
        · refine lv_iload_n hx hb dX8_stop_99 rfl (lv_at hl 6 rfl) ?_
          refine lv_if_ne (tgt := 108) hx hb dX8_stop_100 rfl (fun c_10 => ?_) (fun c_10 => ?_)
          · refine lv_iload hx hb dX8_stop_108 (lv_at hl 2 rfl) ?_
            exact hs_iret hx hb hr hlocks hK hP hD hS () [0, 1] rfl (hs_upnd rfl) dX8_stop_110 (Or.inr ⟨(by rw [hs_nb c_4, hs_nb c_8]; rfl), n6 - 1, by rw [← hI.2.2.1]; exact c_9, hI.2.2.2.2.2, by rw [if_neg c_10]; exact hI.2.2.2.2.1⟩)
          · refine lv_iload hx hb dX8_stop_103 (lv_at hl 1 rfl) ?_
            refine lv_goto (tgt := 110) hx hb dX8_stop_105 rfl ?_
            exact hs_iret hx hb hr hlocks hK hP hD hS () [0, 1] rfl (hs_upnd rfl) dX8_stop_110 (Or.inr ⟨(by rw [hs_nb c_4, hs_nb c_8]; rfl), n6 - 1, by rw [← hI.2.2.1]; exact c_9, hI.2.2.2.2.2, by rw [if_pos c_10]; exact hI.2.2.2.1⟩)
        · refine lv_iload_n hx hb dX8_stop_43 rfl (lv_at hl 3 rfl) ?_
          refine lv_iload_n hx hb dX8_stop_44 rfl (lv_at hl 3 rfl) ?_
          refine lv_iconst (v := 2) hx hb dX8_stop_45 hki_2 ?_
          refine lv_idiv hx hb dX8_stop_46 (by decide) ?_
          refine lv_isub hx hb dX8_stop_47 ?_
          refine lv_istore_n (lv' := [(3, .int (fx - (fx / 2))), (6, .int (nI n6)), (5, .int fo), (4, .int least), (0, .ref mo), (1, .int a), (2, .int what)]) hx hb dX8_stop_48 rfl hl (Nat.le_of_ble_eq_true rfl) rfl (fun ls hl => ?_)
          refine lv_iload_n hx hb dX8_stop_49 rfl (lv_at hl 0 rfl) ?_
          refine lv_iload hx hb dX8_stop_50 (lv_at hl 1 rfl) ?_
          refine lv_iload_n hx hb dX8_stop_52 rfl (lv_at hl 5 rfl) ?_
          refine lv_imul hx hb dX8_stop_53 ?_
          refine lv_iadd hx hb dX8_stop_54 ?_
          refine lv_iload hx hb dX8_stop_55 (lv_at hl 3 rfl) ?_
          refine lv_icmp_ge (tgt := 65) hx hb dX8_stop_57 rfl (fun c_11 => ?_) (fun c_11 => ?_)
          · refine lv_iload hx hb dX8_stop_65 (lv_at hl 2 rfl) ?_
            refine lv_istore (lv' := [(5, .int fo), (3, .int (fx - (fx / 2))), (6, .int (nI n6)), (4, .int least), (0, .ref mo), (1, .int a), (2, .int what)]) hx hb dX8_stop_67 hl (Nat.le_of_ble_eq_true rfl) rfl (fun ls hl => ?_)
            refine lv_iload_n hx hb dX8_stop_69 rfl (lv_at hl 1 rfl) ?_
            refine lv_iload hx hb dX8_stop_70 (lv_at hl 2 rfl) ?_
            refine lv_iload_n hx hb dX8_stop_72 rfl (lv_at hl 5 rfl) ?_
            refine lv_imul hx hb dX8_stop_73 ?_
            refine lv_iadd hx hb dX8_stop_74 ?_
            refine lv_iload hx hb dX8_stop_75 (lv_at hl 3 rfl) ?_
            refine lv_icmp_ge (tgt := 89) hx hb dX8_stop_77 rfl (fun c_12 => ?_) (fun c_12 => ?_)
            · refine lv_iload hx hb dX8_stop_89 (lv_at hl 3 rfl) ?_
              refine lv_istore (lv' := [(4, .int least), (5, .int fo), (3, .int (fx - (fx / 2))), (6, .int (nI n6)), (0, .ref mo), (1, .int a), (2, .int what)]) hx hb dX8_stop_91 hl (Nat.le_of_ble_eq_true rfl) rfl (fun ls hl => ?_)
              refine lv_iinc (v := nI (n6 + 1)) (lv' := [(6, .int (nI (n6 + 1))), (4, .int least), (5, .int fo), (3, .int (fx - (fx / 2))), (0, .ref mo), (1, .int a), (2, .int what)]) hx hb dX8_stop_93 hl (k := 3) rfl (nI_add (n6) 1) (Nat.le_of_ble_eq_true rfl) rfl (fun ls hl => ?_)
              refine lv_goto (tgt := 38) hx hb dX8_stop_96 rfl ?_
              exact ih38 (fx - (fx / 2), least, fo, n6 + 1) (by (try dsimp only); exact ⟨by omega, (by rcases (show n6 < 8 ∨ n6 = 8 by omega) with z9 | z9; omega; exact absurd (show fx ≤ 1 from by rw [hI.2.2.1, show n6 - 1 = 7 by omega]; exact A_sm7 hJ2) c_9), by rw [A_sm_s _ _ hI.1, if_neg (by rw [← hI.2.2.1, ← hI.2.2.2.2.1]; exact Int32.not_lt.mpr c_11)]; (try rw [← hI.2.2.1]); try rfl, by rw [A_sm_s _ _ hI.1, if_neg (by rw [← hI.2.2.1, ← hI.2.2.2.2.1]; exact Int32.not_lt.mpr c_11)]; exact hI.2.2.2.1, by rw [A_sm_s _ _ hI.1, if_neg (by rw [← hI.2.2.1, ← hI.2.2.2.2.1]; exact Int32.not_lt.mpr c_11)]; exact hI.2.2.2.2.1, fun j hj => (by rcases (show j < n6 - 1 ∨ j = n6 - 1 by omega) with z9 | z9; exact hI.2.2.2.2.2 j z9; rw [z9, ← hI.2.2.1]; exact c_9)⟩) (by (try dsimp only); omega) _ _ _ hP hD hS (lv_sub hl [0, 2, 1, 3, 4, 5, 6] rfl)
            · refine lv_iload_n hx hb dX8_stop_80 rfl (lv_at hl 1 rfl) ?_
              refine lv_iload hx hb dX8_stop_81 (lv_at hl 2 rfl) ?_
              refine lv_iload_n hx hb dX8_stop_83 rfl (lv_at hl 5 rfl) ?_
              refine lv_imul hx hb dX8_stop_84 ?_
              refine lv_iadd hx hb dX8_stop_85 ?_
              refine lv_goto (tgt := 91) hx hb dX8_stop_86 rfl ?_
              refine lv_istore (lv' := [(4, .int ((fx - (fx / 2)) + ((nI n6) * a))), (5, .int fo), (3, .int (fx - (fx / 2))), (6, .int (nI n6)), (0, .ref mo), (1, .int a), (2, .int what)]) hx hb dX8_stop_91 hl (Nat.le_of_ble_eq_true rfl) rfl (fun ls hl => ?_)
              refine lv_iinc (v := nI (n6 + 1)) (lv' := [(6, .int (nI (n6 + 1))), (4, .int ((fx - (fx / 2)) + ((nI n6) * a))), (5, .int fo), (3, .int (fx - (fx / 2))), (0, .ref mo), (1, .int a), (2, .int what)]) hx hb dX8_stop_93 hl (k := 3) rfl (nI_add (n6) 1) (Nat.le_of_ble_eq_true rfl) rfl (fun ls hl => ?_)
              refine lv_goto (tgt := 38) hx hb dX8_stop_96 rfl ?_
              exact ih38 (fx - (fx / 2), (fx - (fx / 2)) + ((nI n6) * a), fo, n6 + 1) (by (try dsimp only); exact absurd c_11 c_12) (by (try dsimp only); omega) _ _ _ hP hD hS (lv_sub hl [0, 2, 1, 3, 4, 5, 6] rfl)
          · refine lv_iload hx hb dX8_stop_60 (lv_at hl 1 rfl) ?_
            refine lv_goto (tgt := 67) hx hb dX8_stop_62 rfl ?_
            refine lv_istore (lv' := [(5, .int (nI n6)), (3, .int (fx - (fx / 2))), (6, .int (nI n6)), (4, .int least), (0, .ref mo), (1, .int a), (2, .int what)]) hx hb dX8_stop_67 hl (Nat.le_of_ble_eq_true rfl) rfl (fun ls hl => ?_)
            refine lv_iload_n hx hb dX8_stop_69 rfl (lv_at hl 1 rfl) ?_
            refine lv_iload hx hb dX8_stop_70 (lv_at hl 2 rfl) ?_
            refine lv_iload_n hx hb dX8_stop_72 rfl (lv_at hl 5 rfl) ?_
            refine lv_imul hx hb dX8_stop_73 ?_
            refine lv_iadd hx hb dX8_stop_74 ?_
            refine lv_iload hx hb dX8_stop_75 (lv_at hl 3 rfl) ?_
            refine lv_icmp_ge (tgt := 89) hx hb dX8_stop_77 rfl (fun c_13 => ?_) (fun c_13 => ?_)
            · refine lv_iload hx hb dX8_stop_89 (lv_at hl 3 rfl) ?_
              refine lv_istore (lv' := [(4, .int least), (5, .int (nI n6)), (3, .int (fx - (fx / 2))), (6, .int (nI n6)), (0, .ref mo), (1, .int a), (2, .int what)]) hx hb dX8_stop_91 hl (Nat.le_of_ble_eq_true rfl) rfl (fun ls hl => ?_)
              refine lv_iinc (v := nI (n6 + 1)) (lv' := [(6, .int (nI (n6 + 1))), (4, .int least), (5, .int (nI n6)), (3, .int (fx - (fx / 2))), (0, .ref mo), (1, .int a), (2, .int what)]) hx hb dX8_stop_93 hl (k := 3) rfl (nI_add (n6) 1) (Nat.le_of_ble_eq_true rfl) rfl (fun ls hl => ?_)
              refine lv_goto (tgt := 38) hx hb dX8_stop_96 rfl ?_
              exact ih38 (fx - (fx / 2), least, nI n6, n6 + 1) (by (try dsimp only); exact absurd c_13 c_11) (by (try dsimp only); omega) _ _ _ hP hD hS (lv_sub hl [0, 2, 1, 3, 4, 5, 6] rfl)
            · refine lv_iload_n hx hb dX8_stop_80 rfl (lv_at hl 1 rfl) ?_
              refine lv_iload hx hb dX8_stop_81 (lv_at hl 2 rfl) ?_
              refine lv_iload_n hx hb dX8_stop_83 rfl (lv_at hl 5 rfl) ?_
              refine lv_imul hx hb dX8_stop_84 ?_
              refine lv_iadd hx hb dX8_stop_85 ?_
              refine lv_goto (tgt := 91) hx hb dX8_stop_86 rfl ?_
              refine lv_istore (lv' := [(4, .int ((fx - (fx / 2)) + ((nI n6) * a))), (5, .int (nI n6)), (3, .int (fx - (fx / 2))), (6, .int (nI n6)), (0, .ref mo), (1, .int a), (2, .int what)]) hx hb dX8_stop_91 hl (Nat.le_of_ble_eq_true rfl) rfl (fun ls hl => ?_)
              refine lv_iinc (v := nI (n6 + 1)) (lv' := [(6, .int (nI (n6 + 1))), (4, .int ((fx - (fx / 2)) + ((nI n6) * a))), (5, .int (nI n6)), (3, .int (fx - (fx / 2))), (0, .ref mo), (1, .int a), (2, .int what)]) hx hb dX8_stop_93 hl (k := 3) rfl (nI_add (n6) 1) (Nat.le_of_ble_eq_true rfl) rfl (fun ls hl => ?_)
              refine lv_goto (tgt := 38) hx hb dX8_stop_96 rfl ?_
              exact ih38 (fx - (fx / 2), (fx - (fx / 2)) + ((nI n6) * a), nI n6, n6 + 1) (by (try dsimp only); exact ⟨by omega, (by rcases (show n6 < 8 ∨ n6 = 8 by omega) with z9 | z9; omega; exact absurd (show fx ≤ 1 from by rw [hI.2.2.1, show n6 - 1 = 7 by omega]; exact A_sm7 hJ2) c_9), by rw [A_sm_s _ _ hI.1, if_pos (by rw [← hI.2.2.1, ← hI.2.2.2.2.1]; exact Int32.not_le.mp c_11)]; (try rw [← hI.2.2.1]); try rfl, by rw [A_sm_s _ _ hI.1, if_pos (by rw [← hI.2.2.1, ← hI.2.2.2.2.1]; exact Int32.not_le.mp c_11)]; try rfl, by rw [A_sm_s _ _ hI.1, if_pos (by rw [← hI.2.2.1, ← hI.2.2.2.2.1]; exact Int32.not_le.mp c_11)]; (try rw [← hI.2.2.1]); try rfl, fun j hj => (by rcases (show j < n6 - 1 ∨ j = n6 - 1 by omega) with z9 | z9; exact hI.2.2.2.2.2 j z9; rw [z9, ← hI.2.2.1]; exact c_9)⟩) (by (try dsimp only); omega) _ _ _ hP hD hS (lv_sub hl [0, 2, 1, 3, 4, 5, 6] rfl)
      · (try dsimp only); exact ⟨by decide, by decide, rfl, rfl, rfl, fun j hj => absurd hj (by omega)⟩
    · refine lv_iconst (v := (-1)) hx hb dX8_stop_19 hki_m1 ?_
      exact hs_iret hx hb hr hlocks hK hP hD hS () [0, 1] rfl (hs_upnd rfl) dX8_stop_20 (Or.inl ⟨by rw [hs_n0 c_8, Bool.and_false], rfl⟩)
