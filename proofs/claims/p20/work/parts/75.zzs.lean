set_option maxHeartbeats 4000000 in
set_option maxRecDepth 100000 in
theorem gpf_middle (l : Launch) (D : va_G) (k : Nat → ClassId) (sz : Nat) (h : Nat) (h_now : Nat) (h_trial : Nat) (h_images : Nat) (h_imageThere : Nat) (h_teller : Nat) (h_ranks : Nat) (h_court : Nat) (h_sheets : Nat) (h_lf : Int32) (h_lt : Int32) (n_a : Nat → Nat) (n_N : Nat → Nat) (n_J : Nat → Int32) (n_F : Nat → Nat → Int32) (what : Int32) (hN0 : thN n_N) (hF : thF n_N n_F) (h2 : 2 ≤ n_N 0) : MI l yX7_middle wsX7_middle ({ frames := 4, cells := 0, slots := 0, locals := 96 }) D k [.ref h, .int what] [oq6 h h_now h_trial h_images h_imageThere h_teller h_ranks h_court h_sheets h_lf h_lt, oqT h_now n_a n_N n_J, oqF0 k n_a n_F, oqF1 k n_a n_F, oqF2 k n_a n_F, oqF3 k n_a n_F, oqF4 k n_a n_F, oqF5 k n_a n_F, oqF6 k n_a n_F] sz (fun (r : Int32) (u : Unit) => r = A_midC n_N n_J n_F what) (fun (u : Unit) => [oq6 h h_now h_trial h_images h_imageThere h_teller h_ranks h_court h_sheets h_lf h_lt, oqT h_now n_a n_N n_J, oqF0 k n_a n_F, oqF1 k n_a n_F, oqF2 k n_a n_F, oqF3 k n_a n_F, oqF4 k n_a n_F, oqF5 k n_a n_F, oqF6 k n_a n_F]) := by
  refine Met.ofW (cc := cX7_middle) (maxL := 6) (ret := (some .int)) hpn_X7 rfl ?_
  intro p e s m args below meth c s₁ B hml hv
  obtain ⟨rfl, hsz, hP, hK, hD0, hN⟩ := hv
  have hx := B.exec
  have hb := B.bytes
  have hr := B.returns
  have hlocks := B.notSynchronized
  have hts := atoms_spec (ws := wsX7_middle) B.pre
  have hown := findClass_of_methodNamed B.named
  have hown : s.vm.findClass RX7 = some m.cls := hown
  have hiX6 : ∀ w ∈ u_ws RX6 TX6 15, w ∈ wsX7_middle := fun w9 hw9 => List.mem_cons_of_mem _ (igX6 w9 hw9)
  have hiX7 : ∀ w ∈ u_ws RX7 TX7 10, w ∈ wsX7_middle := fun w9 hw9 => List.mem_cons_of_mem _ (igX7 w9 hw9)
  have fl10 := hts (.fieldLink RX7 10 "HalfScales" "now" "LHalfScales$Thing;") (List.mem_cons_of_mem _ (hs_inG 1 215 rfl rfl))
  have fl93 := hts (.fieldLink RX7 93 "HalfScales$Thing" "cellCount" "I") (List.mem_cons_of_mem _ (hs_inG 1 53 rfl rfl))
  have hNn := hN0
  obtain ⟨I0, I1, ⟨I2, I2b⟩, I3, I4⟩ := hN0
  subst hsz
  have hD := hD0.self (sz := s.heap.size)
  generalize hAe : va_A [oq6 h h_now h_trial h_images h_imageThere h_teller h_ranks h_court h_sheets h_lf h_lt, oqT h_now n_a n_N n_J, oqF0 k n_a n_F, oqF1 k n_a n_F, oqF2 k n_a n_F, oqF3 k n_a n_F, oqF4 k n_a n_F, oqF5 k n_a n_F, oqF6 k n_a n_F] s.heap.size = A at hD ⊢
  have hA : ∀ q : Nat, s.heap.size ≤ q → A q := fun q h => by rw [← hAe]; exact Or.inr h
  have hS : va_S A s.heap s.heap [] := va_S.rf
  have hl := lv_entry ([.ref h, .int what]) (n := 6) (Nat.le_of_ble_eq_true rfl)
  rw [lg_entry_eq]
  generalize (lg_sl ([.ref h, .int what]) ++ List.replicate (6 - (lg_sl ([.ref h, .int what])).length) Slot.unset).toArray = ls at hl ⊢
  have hl : lv_has ls 6 [(0, .ref h), (1, .int what)] := hl
  have hP : va_P D vwCl [oq6 h h_now h_trial h_images h_imageThere h_teller h_ranks h_court h_sheets h_lf h_lt, oqT h_now n_a n_N n_J, oqF0 k n_a n_F, oqF1 k n_a n_F, oqF2 k n_a n_F, oqF3 k n_a n_F, oqF4 k n_a n_F, oqF5 k n_a n_F, oqF6 k n_a n_F] s.heap := hP
  refine lv_iload_n hx hb dX7_middle_0 rfl (lv_at hl 1 rfl) ?_
  refine lv_iconst (v := 0) hx hb dX7_middle_1 hki_0 ?_
  refine lv_iconst (v := 1) hx hb dX7_middle_2 hki_1 ?_
  refine hs_pi (va_runS (As := [.int what, .int 0, .int 1]) (rest := []) ⟨hx, hb, hml, hown, hts⟩ (g_within l D k _ what 0 1) (va_cwS 3 hts gX7_middle_X7_within rfl rfl rfl hq_X7_within ⟨Nat.le_of_ble_eq_true rfl, Nat.le_of_ble_eq_true rfl⟩) (hs_preS hK hN (hs_subP (w := []) hP [] rfl) (hD.sub (ws' := []) [] rfl rfl)) rfl rfl hl.1 rfl (lv_room (Nat.le_of_ble_eq_true rfl)) dX7_middle_3 ⟨Nat.le_of_ble_eq_true rfl, Nat.le_of_ble_eq_true rfl⟩) hP hD hS hA (fun r_1 u_3 H locs hw_2 hP hS => ?_)
  refine hs_topi (hsb (hsin what 0 1)) hw_2 ?_
  refine lv_if_ne (tgt := 11) hx hb dX7_middle_6 rfl (fun c_4 => ?_) (fun c_4 => ?_)
  · rcases hs_v01 (hs_nb c_4) with rfl | rfl
    · refine lv_iconst (v := 1) hx hb dX7_middle_11 hki_1 ?_
      refine lv_istore_n (lv' := [(2, .int 1), (0, .ref h), (1, .int 0)]) hx hb dX7_middle_12 rfl hl (Nat.le_of_ble_eq_true rfl) rfl (fun ls hl => ?_)
      refine lv_aload_n hx hb dX7_middle_13 rfl (lv_at hl 1 rfl) ?_
      refine va_get (D := D) (ci := 6) (v := .ref h_now) (C := RX7) (T := TX7) (N := 10) hx hb hts hiX7 hown hK hP 0 rfl rfl 0 (Nat.le_of_ble_eq_true rfl) fl10 (fun _ h9 => h9) rfl dX7_middle_14 ?_
      refine lv_iconst (v := 1) hx hb dX7_middle_17 hki_1 ?_
      refine hs_ciM (va_runV (As := [.int 1]) (rest := []) ⟨hx, hb, hml, hown, hts⟩ (gf_justTo l D k _ h_now n_a n_N n_J n_F 1 (by first | assumption | exact ⟨by first | omega | (dsimp; omega), by first | omega | (dsimp; omega), ⟨by first | omega | (dsimp; omega), by first | omega | (dsimp; omega)⟩, by first | omega | (dsimp; omega), by first | omega | (dsimp; omega)⟩)) (cwV 1 hts gX7_middle_X6_justTo rfl rfl rfl ⟨rfl, hq_X6_justTo⟩ ⟨Nat.le_of_ble_eq_true rfl, Nat.le_of_ble_eq_true rfl⟩) (hs_preV hK hN (hs_subP (w := [_, _, _, _, _, _, _, _]) hP [1, 2, 3, 4, 5, 6, 7, 8] rfl) (hD.sub (ws' := [_, _, _, _, _, _, _, _]) [1, 2, 3, 4, 5, 6, 7, 8] (hs_upnd rfl) rfl) (ci := 5) (q0 := 0) rfl rfl) rfl rfl hl.1 rfl (lv_room (Nat.le_of_ble_eq_true rfl)) dX7_middle_18 ⟨Nat.le_of_ble_eq_true rfl, Nat.le_of_ble_eq_true rfl⟩) hP hD hS hA [true, false, false, false, false, false, false, false, false] [_] [_, _, _, _, _, _, _, _] rfl [0, 1, 2, 3, 4, 5, 6, 7] rfl [0, 1, 2, 3, 4, 5, 6, 7] (fun u_7 => [_, _, _, _, _, _, _, _]) (fun _ => rfl) (hs_upnd rfl) [true, false, false, false, false, false, false, false, false] (fun u_7 => [_, _, _, _, _, _, _, _, _]) (fun _ => rfl) (fun r_5 u_7 H locs hw_6 hP hD hS => ?_)
      refine hs_topi (A_jt (A_vfc n_N n_J n_F 1) (n_N 1)) hw_6 ?_
      refine hs_pi (va_runS (As := [.int (A_jt (A_vfc n_N n_J n_F 1) (n_N 1))]) (rest := []) ⟨hx, hb, hml, hown, hts⟩ (gf_bitCount l D k _ (A_jt (A_vfc n_N n_J n_F 1) (n_N 1))) (va_cwS 1 hts gX7_middle_J6_bitCount_0f7a4 rfl rfl rfl hq_J6_bitCount_0f7a4 ⟨Nat.le_of_ble_eq_true rfl, Nat.le_of_ble_eq_true rfl⟩) (hs_preS hK hN (hs_subP (w := []) hP [] rfl) (hD.sub (ws' := []) [] rfl rfl)) rfl rfl hl.1 rfl (lv_room (Nat.le_of_ble_eq_true rfl)) dX7_middle_21 ⟨Nat.le_of_ble_eq_true rfl, Nat.le_of_ble_eq_true rfl⟩) hP hD hS hA (fun r_8 u_10 H locs hw_9 hP hS => ?_)
      refine hs_topi (A_bc (A_jt (A_vfc n_N n_J n_F 1) (n_N 1))) hw_9 ?_
      refine lv_istore_n (lv' := [(3, .int (A_bc (A_jt (A_vfc n_N n_J n_F 1) (n_N 1)))), (2, .int 1), (0, .ref h), (1, .int 0)]) hx hb dX7_middle_24 rfl hl (Nat.le_of_ble_eq_true rfl) rfl (fun ls hl => ?_)
      refine lv_iconst (v := 2) hx hb dX7_middle_25 hki_2 ?_
      refine lv_istore (lv' := [(4, .int 2), (3, .int (A_bc (A_jt (A_vfc n_N n_J n_F 1) (n_N 1)))), (2, .int 1), (0, .ref h), (1, .int 0)]) hx hb dX7_middle_26 hl (Nat.le_of_ble_eq_true rfl) rfl (fun ls hl => ?_)
      refine hs_while (σ := Int32 × Int32 × Nat) (fun x => 2 ≤ x.2.2 ∧ x.2.2 - 2 ≤ n_N 0 - 2 ∧ x.1 = (A_mxC (A_miC n_N n_J n_F) (x.2.2 - 2)).1 ∧ x.2.1 = (A_mxC (A_miC n_N n_J n_F) (x.2.2 - 2)).2) (fun x => n_N 0 + 2 - x.2.2) (fun x => [oq6 h h_now h_trial h_images h_imageThere h_teller h_ranks h_court h_sheets h_lf h_lt, oqT h_now n_a n_N n_J, oqF0 k n_a n_F, oqF1 k n_a n_F, oqF2 k n_a n_F, oqF3 k n_a n_F, oqF4 k n_a n_F, oqF5 k n_a n_F, oqF6 k n_a n_F]) (fun x => [(4, .int (nI (x.2.2))), (3, .int (x.2.1)), (2, .int (x.1)), (0, .ref h), (1, .int 0)]) ?_ (1, A_bc (A_jt (A_vfc n_N n_J n_F 1) (n_N 1)), 2) ?_ hP hD hS hl
      · intro x hI ih28 H locs ls hP hD hS hl
        obtain ⟨best, most, kk⟩ := x
        try dsimp only at hI
        have hP : va_P D vwCl [_, _, _, _, _, _, _, _, _] H := hP
        have hD : va_D A [_, _, _, _, _, _, _, _, _] := hD
        have hl : lv_has ls 6 [(4, .int (nI kk)), (3, .int most), (2, .int best), (0, .ref h), (1, .int 0)] := hl
        refine lv_iload hx hb dX7_middle_28 (lv_at hl 0 rfl) ?_
        refine lv_aload_n hx hb dX7_middle_30 rfl (lv_at hl 3 rfl) ?_
        refine va_get (D := D) (ci := 6) (v := .ref h_now) (C := RX7) (T := TX7) (N := 10) hx hb hts hiX7 hown hK hP 0 rfl rfl 0 (Nat.le_of_ble_eq_true rfl) fl10 (fun _ h9 => h9) rfl dX7_middle_31 ?_
        refine va_get (D := D) (ci := 5) (v := .int (nI (n_N 0))) (C := RX6) (T := TX6) (N := 15) hx hb hts hiX6 hown hK hP 1 rfl rfl 7 (Nat.le_of_ble_eq_true rfl) fl93 (fun _ h9 => h9) rfl dX7_middle_34 ?_
        refine lv_icmp_ge (tgt := 72) hx hb dX7_middle_37 rfl (fun c_11 => ?_) (fun c_11 => ?_)
        · have nc_11 : (n_N 0) ≤ kk := (nI_leI (a := (n_N 0)) (b := kk) (by omega) (by omega)).mp c_11
          refine lv_iload_n hx hb dX7_middle_72 rfl (lv_at hl 4 rfl) ?_
          refine lv_if_ne (tgt := 80) hx hb dX7_middle_73 rfl (fun c_12 => absurd c_12 (by decide)) (fun c_12 => ?_)
          refine lv_iload_n hx hb dX7_middle_76 rfl (lv_at hl 2 rfl) ?_
          refine lv_goto (tgt := 81) hx hb dX7_middle_77 rfl ?_
          exact hs_iret hx hb hr hlocks hK hP hD hS () [0, 1, 2, 3, 4, 5, 6, 7, 8] rfl (hs_upnd rfl) dX7_middle_81 ((by rw [A_midC, if_pos (by decide), if_pos rfl, hI.2.2.1, show kk - 2 = n_N 0 - 2 by omega]))
        · have nc_11 : ¬ (n_N 0) ≤ kk := fun hq9 => c_11 ((nI_leI (a := (n_N 0)) (b := kk) (by omega) (by omega)).mpr hq9)
          refine lv_aload_n hx hb dX7_middle_40 rfl (lv_at hl 3 rfl) ?_
          refine va_get (D := D) (ci := 6) (v := .ref h_now) (C := RX7) (T := TX7) (N := 10) hx hb hts hiX7 hown hK hP 0 rfl rfl 0 (Nat.le_of_ble_eq_true rfl) fl10 (fun _ h9 => h9) rfl dX7_middle_41 ?_
          refine lv_iload hx hb dX7_middle_44 (lv_at hl 0 rfl) ?_
          refine hs_ciM (va_runV (As := [.int (nI kk)]) (rest := []) ⟨hx, hb, hml, hown, hts⟩ (gf_justTo l D k _ h_now n_a n_N n_J n_F (nI kk) (by first | assumption | exact ⟨by first | omega | (dsimp; omega), by first | omega | (dsimp; omega), ⟨by first | omega | (dsimp; omega), by first | omega | (dsimp; omega)⟩, by first | omega | (dsimp; omega), by first | omega | (dsimp; omega)⟩)) (cwV 1 hts gX7_middle_X6_justTo rfl rfl rfl ⟨rfl, hq_X6_justTo⟩ ⟨Nat.le_of_ble_eq_true rfl, Nat.le_of_ble_eq_true rfl⟩) (hs_preV hK hN (hs_subP (w := [_, _, _, _, _, _, _, _]) hP [1, 2, 3, 4, 5, 6, 7, 8] rfl) (hD.sub (ws' := [_, _, _, _, _, _, _, _]) [1, 2, 3, 4, 5, 6, 7, 8] (hs_upnd rfl) rfl) (ci := 5) (q0 := 0) rfl rfl) rfl rfl hl.1 rfl (lv_room (Nat.le_of_ble_eq_true rfl)) dX7_middle_46 ⟨Nat.le_of_ble_eq_true rfl, Nat.le_of_ble_eq_true rfl⟩) hP hD hS hA [true, false, false, false, false, false, false, false, false] [_] [_, _, _, _, _, _, _, _] rfl [0, 1, 2, 3, 4, 5, 6, 7] rfl [0, 1, 2, 3, 4, 5, 6, 7] (fun u_15 => [_, _, _, _, _, _, _, _]) (fun _ => rfl) (hs_upnd rfl) [true, false, false, false, false, false, false, false, false] (fun u_15 => [_, _, _, _, _, _, _, _, _]) (fun _ => rfl) (fun r_13 u_15 H locs hw_14 hP hD hS => ?_)
          refine hs_topi (A_jt (A_vfc n_N n_J n_F (nI kk)) (n_N 1)) hw_14 ?_
          refine hs_pi (va_runS (As := [.int (A_jt (A_vfc n_N n_J n_F (nI kk)) (n_N 1))]) (rest := []) ⟨hx, hb, hml, hown, hts⟩ (gf_bitCount l D k _ (A_jt (A_vfc n_N n_J n_F (nI kk)) (n_N 1))) (va_cwS 1 hts gX7_middle_J6_bitCount_0f7a4 rfl rfl rfl hq_J6_bitCount_0f7a4 ⟨Nat.le_of_ble_eq_true rfl, Nat.le_of_ble_eq_true rfl⟩) (hs_preS hK hN (hs_subP (w := []) hP [] rfl) (hD.sub (ws' := []) [] rfl rfl)) rfl rfl hl.1 rfl (lv_room (Nat.le_of_ble_eq_true rfl)) dX7_middle_49 ⟨Nat.le_of_ble_eq_true rfl, Nat.le_of_ble_eq_true rfl⟩) hP hD hS hA (fun r_16 u_18 H locs hw_17 hP hS => ?_)
          refine hs_topi (A_bc (A_jt (A_vfc n_N n_J n_F (nI kk)) (n_N 1))) hw_17 ?_
          refine lv_istore (lv' := [(5, .int (A_bc (A_jt (A_vfc n_N n_J n_F (nI kk)) (n_N 1)))), (4, .int (nI kk)), (3, .int most), (2, .int best), (0, .ref h), (1, .int 0)]) hx hb dX7_middle_52 hl (Nat.le_of_ble_eq_true rfl) rfl (fun ls hl => ?_)
          refine lv_iload hx hb dX7_middle_54 (lv_at hl 0 rfl) ?_
          refine lv_iload_n hx hb dX7_middle_56 rfl (lv_at hl 2 rfl) ?_
          refine lv_icmp_le (tgt := 66) hx hb dX7_middle_57 rfl (fun c_19 => ?_) (fun c_19 => ?_)
          · refine lv_iinc (v := nI (kk + 1)) (lv' := [(4, .int (nI (kk + 1))), (5, .int (A_bc (A_jt (A_vfc n_N n_J n_F (nI kk)) (n_N 1)))), (3, .int most), (2, .int best), (0, .ref h), (1, .int 0)]) hx hb dX7_middle_66 hl (k := 1) rfl (nI_add (kk) 1) (Nat.le_of_ble_eq_true rfl) rfl (fun ls hl => ?_)
            refine lv_goto (tgt := 28) hx hb dX7_middle_69 rfl ?_
            exact ih28 (best, most, kk + 1) (by (try dsimp only); exact ⟨by omega, by omega, by rw [A_mxC_s _ hI.1, if_neg (show ¬ (A_mxC (A_miC n_N n_J n_F) (kk - 2)).2 < (A_miC n_N n_J n_F) kk by rw [← hI.2.2.2]; exact Int32.not_lt.mpr c_19)]; exact hI.2.2.1, by rw [A_mxC_s _ hI.1, if_neg (show ¬ (A_mxC (A_miC n_N n_J n_F) (kk - 2)).2 < (A_miC n_N n_J n_F) kk by rw [← hI.2.2.2]; exact Int32.not_lt.mpr c_19)]; exact hI.2.2.2⟩) (by (try dsimp only); omega) _ _ _ hP hD hS (lv_sub hl [0, 2, 3, 4, 5] rfl)
          · refine lv_iload hx hb dX7_middle_60 (lv_at hl 1 rfl) ?_
            refine lv_istore_n (lv' := [(2, .int (nI kk)), (5, .int (A_bc (A_jt (A_vfc n_N n_J n_F (nI kk)) (n_N 1)))), (4, .int (nI kk)), (3, .int most), (0, .ref h), (1, .int 0)]) hx hb dX7_middle_62 rfl hl (Nat.le_of_ble_eq_true rfl) rfl (fun ls hl => ?_)
            refine lv_iload hx hb dX7_middle_63 (lv_at hl 1 rfl) ?_
            refine lv_istore_n (lv' := [(3, .int (A_bc (A_jt (A_vfc n_N n_J n_F (nI kk)) (n_N 1)))), (2, .int (nI kk)), (5, .int (A_bc (A_jt (A_vfc n_N n_J n_F (nI kk)) (n_N 1)))), (4, .int (nI kk)), (0, .ref h), (1, .int 0)]) hx hb dX7_middle_65 rfl hl (Nat.le_of_ble_eq_true rfl) rfl (fun ls hl => ?_)
            refine lv_iinc (v := nI (kk + 1)) (lv' := [(4, .int (nI (kk + 1))), (3, .int (A_bc (A_jt (A_vfc n_N n_J n_F (nI kk)) (n_N 1)))), (2, .int (nI kk)), (5, .int (A_bc (A_jt (A_vfc n_N n_J n_F (nI kk)) (n_N 1)))), (0, .ref h), (1, .int 0)]) hx hb dX7_middle_66 hl (k := 3) rfl (nI_add (kk) 1) (Nat.le_of_ble_eq_true rfl) rfl (fun ls hl => ?_)
            refine lv_goto (tgt := 28) hx hb dX7_middle_69 rfl ?_
            exact ih28 (nI kk, A_bc (A_jt (A_vfc n_N n_J n_F (nI kk)) (n_N 1)), kk + 1) (by (try dsimp only); exact ⟨by omega, by omega, by rw [A_mxC_s _ hI.1, if_pos (show (A_mxC (A_miC n_N n_J n_F) (kk - 2)).2 < (A_miC n_N n_J n_F) kk by rw [← hI.2.2.2]; exact Int32.not_le.mp c_19)]; try rfl, by rw [A_mxC_s _ hI.1, if_pos (show (A_mxC (A_miC n_N n_J n_F) (kk - 2)).2 < (A_miC n_N n_J n_F) kk by rw [← hI.2.2.2]; exact Int32.not_le.mp c_19)]; try rfl⟩) (by (try dsimp only); omega) _ _ _ hP hD hS (lv_sub hl [0, 1, 2, 4, 5] rfl)
      · (try dsimp only); exact ⟨by decide, by omega, rfl, rfl⟩
    · refine lv_iconst (v := 1) hx hb dX7_middle_11 hki_1 ?_
      refine lv_istore_n (lv' := [(2, .int 1), (0, .ref h), (1, .int 1)]) hx hb dX7_middle_12 rfl hl (Nat.le_of_ble_eq_true rfl) rfl (fun ls hl => ?_)
      refine lv_aload_n hx hb dX7_middle_13 rfl (lv_at hl 1 rfl) ?_
      refine va_get (D := D) (ci := 6) (v := .ref h_now) (C := RX7) (T := TX7) (N := 10) hx hb hts hiX7 hown hK hP 0 rfl rfl 0 (Nat.le_of_ble_eq_true rfl) fl10 (fun _ h9 => h9) rfl dX7_middle_14 ?_
      refine lv_iconst (v := 1) hx hb dX7_middle_17 hki_1 ?_
      refine hs_ciM (va_runV (As := [.int 1]) (rest := []) ⟨hx, hb, hml, hown, hts⟩ (gf_justTo l D k _ h_now n_a n_N n_J n_F 1 (by first | assumption | exact ⟨by first | omega | (dsimp; omega), by first | omega | (dsimp; omega), ⟨by first | omega | (dsimp; omega), by first | omega | (dsimp; omega)⟩, by first | omega | (dsimp; omega), by first | omega | (dsimp; omega)⟩)) (cwV 1 hts gX7_middle_X6_justTo rfl rfl rfl ⟨rfl, hq_X6_justTo⟩ ⟨Nat.le_of_ble_eq_true rfl, Nat.le_of_ble_eq_true rfl⟩) (hs_preV hK hN (hs_subP (w := [_, _, _, _, _, _, _, _]) hP [1, 2, 3, 4, 5, 6, 7, 8] rfl) (hD.sub (ws' := [_, _, _, _, _, _, _, _]) [1, 2, 3, 4, 5, 6, 7, 8] (hs_upnd rfl) rfl) (ci := 5) (q0 := 0) rfl rfl) rfl rfl hl.1 rfl (lv_room (Nat.le_of_ble_eq_true rfl)) dX7_middle_18 ⟨Nat.le_of_ble_eq_true rfl, Nat.le_of_ble_eq_true rfl⟩) hP hD hS hA [true, false, false, false, false, false, false, false, false] [_] [_, _, _, _, _, _, _, _] rfl [0, 1, 2, 3, 4, 5, 6, 7] rfl [0, 1, 2, 3, 4, 5, 6, 7] (fun u_22 => [_, _, _, _, _, _, _, _]) (fun _ => rfl) (hs_upnd rfl) [true, false, false, false, false, false, false, false, false] (fun u_22 => [_, _, _, _, _, _, _, _, _]) (fun _ => rfl) (fun r_20 u_22 H locs hw_21 hP hD hS => ?_)
      refine hs_topi (A_jt (A_vfc n_N n_J n_F 1) (n_N 1)) hw_21 ?_
      refine hs_pi (va_runS (As := [.int (A_jt (A_vfc n_N n_J n_F 1) (n_N 1))]) (rest := []) ⟨hx, hb, hml, hown, hts⟩ (gf_bitCount l D k _ (A_jt (A_vfc n_N n_J n_F 1) (n_N 1))) (va_cwS 1 hts gX7_middle_J6_bitCount_0f7a4 rfl rfl rfl hq_J6_bitCount_0f7a4 ⟨Nat.le_of_ble_eq_true rfl, Nat.le_of_ble_eq_true rfl⟩) (hs_preS hK hN (hs_subP (w := []) hP [] rfl) (hD.sub (ws' := []) [] rfl rfl)) rfl rfl hl.1 rfl (lv_room (Nat.le_of_ble_eq_true rfl)) dX7_middle_21 ⟨Nat.le_of_ble_eq_true rfl, Nat.le_of_ble_eq_true rfl⟩) hP hD hS hA (fun r_23 u_25 H locs hw_24 hP hS => ?_)
      refine hs_topi (A_bc (A_jt (A_vfc n_N n_J n_F 1) (n_N 1))) hw_24 ?_
      refine lv_istore_n (lv' := [(3, .int (A_bc (A_jt (A_vfc n_N n_J n_F 1) (n_N 1)))), (2, .int 1), (0, .ref h), (1, .int 1)]) hx hb dX7_middle_24 rfl hl (Nat.le_of_ble_eq_true rfl) rfl (fun ls hl => ?_)
      refine lv_iconst (v := 2) hx hb dX7_middle_25 hki_2 ?_
      refine lv_istore (lv' := [(4, .int 2), (3, .int (A_bc (A_jt (A_vfc n_N n_J n_F 1) (n_N 1)))), (2, .int 1), (0, .ref h), (1, .int 1)]) hx hb dX7_middle_26 hl (Nat.le_of_ble_eq_true rfl) rfl (fun ls hl => ?_)
      refine hs_while (σ := Int32 × Int32 × Nat) (fun x => 2 ≤ x.2.2 ∧ x.2.2 - 2 ≤ n_N 0 - 2 ∧ x.1 = (A_mxC (A_miC n_N n_J n_F) (x.2.2 - 2)).1 ∧ x.2.1 = (A_mxC (A_miC n_N n_J n_F) (x.2.2 - 2)).2) (fun x => n_N 0 + 2 - x.2.2) (fun x => [oq6 h h_now h_trial h_images h_imageThere h_teller h_ranks h_court h_sheets h_lf h_lt, oqT h_now n_a n_N n_J, oqF0 k n_a n_F, oqF1 k n_a n_F, oqF2 k n_a n_F, oqF3 k n_a n_F, oqF4 k n_a n_F, oqF5 k n_a n_F, oqF6 k n_a n_F]) (fun x => [(4, .int (nI (x.2.2))), (3, .int (x.2.1)), (2, .int (x.1)), (0, .ref h), (1, .int 1)]) ?_ (1, A_bc (A_jt (A_vfc n_N n_J n_F 1) (n_N 1)), 2) ?_ hP hD hS hl
      · intro x hI ih28 H locs ls hP hD hS hl
        obtain ⟨best, most, kk⟩ := x
        try dsimp only at hI
        have hP : va_P D vwCl [_, _, _, _, _, _, _, _, _] H := hP
        have hD : va_D A [_, _, _, _, _, _, _, _, _] := hD
        have hl : lv_has ls 6 [(4, .int (nI kk)), (3, .int most), (2, .int best), (0, .ref h), (1, .int 1)] := hl
        refine lv_iload hx hb dX7_middle_28 (lv_at hl 0 rfl) ?_
        refine lv_aload_n hx hb dX7_middle_30 rfl (lv_at hl 3 rfl) ?_
        refine va_get (D := D) (ci := 6) (v := .ref h_now) (C := RX7) (T := TX7) (N := 10) hx hb hts hiX7 hown hK hP 0 rfl rfl 0 (Nat.le_of_ble_eq_true rfl) fl10 (fun _ h9 => h9) rfl dX7_middle_31 ?_
        refine va_get (D := D) (ci := 5) (v := .int (nI (n_N 0))) (C := RX6) (T := TX6) (N := 15) hx hb hts hiX6 hown hK hP 1 rfl rfl 7 (Nat.le_of_ble_eq_true rfl) fl93 (fun _ h9 => h9) rfl dX7_middle_34 ?_
        refine lv_icmp_ge (tgt := 72) hx hb dX7_middle_37 rfl (fun c_26 => ?_) (fun c_26 => ?_)
        · have nc_26 : (n_N 0) ≤ kk := (nI_leI (a := (n_N 0)) (b := kk) (by omega) (by omega)).mp c_26
          refine lv_iload_n hx hb dX7_middle_72 rfl (lv_at hl 4 rfl) ?_
          refine lv_if_ne (tgt := 80) hx hb dX7_middle_73 rfl (fun c_27 => ?_) (fun c_27 => absurd c_27 (by decide))
          refine lv_iload_n hx hb dX7_middle_80 rfl (lv_at hl 1 rfl) ?_
          exact hs_iret hx hb hr hlocks hK hP hD hS () [0, 1, 2, 3, 4, 5, 6, 7, 8] rfl (hs_upnd rfl) dX7_middle_81 ((by rw [A_midC, if_pos (by decide), if_neg (by decide), hI.2.2.2, show kk - 2 = n_N 0 - 2 by omega]))
        · have nc_26 : ¬ (n_N 0) ≤ kk := fun hq9 => c_26 ((nI_leI (a := (n_N 0)) (b := kk) (by omega) (by omega)).mpr hq9)
          refine lv_aload_n hx hb dX7_middle_40 rfl (lv_at hl 3 rfl) ?_
          refine va_get (D := D) (ci := 6) (v := .ref h_now) (C := RX7) (T := TX7) (N := 10) hx hb hts hiX7 hown hK hP 0 rfl rfl 0 (Nat.le_of_ble_eq_true rfl) fl10 (fun _ h9 => h9) rfl dX7_middle_41 ?_
          refine lv_iload hx hb dX7_middle_44 (lv_at hl 0 rfl) ?_
          refine hs_ciM (va_runV (As := [.int (nI kk)]) (rest := []) ⟨hx, hb, hml, hown, hts⟩ (gf_justTo l D k _ h_now n_a n_N n_J n_F (nI kk) (by first | assumption | exact ⟨by first | omega | (dsimp; omega), by first | omega | (dsimp; omega), ⟨by first | omega | (dsimp; omega), by first | omega | (dsimp; omega)⟩, by first | omega | (dsimp; omega), by first | omega | (dsimp; omega)⟩)) (cwV 1 hts gX7_middle_X6_justTo rfl rfl rfl ⟨rfl, hq_X6_justTo⟩ ⟨Nat.le_of_ble_eq_true rfl, Nat.le_of_ble_eq_true rfl⟩) (hs_preV hK hN (hs_subP (w := [_, _, _, _, _, _, _, _]) hP [1, 2, 3, 4, 5, 6, 7, 8] rfl) (hD.sub (ws' := [_, _, _, _, _, _, _, _]) [1, 2, 3, 4, 5, 6, 7, 8] (hs_upnd rfl) rfl) (ci := 5) (q0 := 0) rfl rfl) rfl rfl hl.1 rfl (lv_room (Nat.le_of_ble_eq_true rfl)) dX7_middle_46 ⟨Nat.le_of_ble_eq_true rfl, Nat.le_of_ble_eq_true rfl⟩) hP hD hS hA [true, false, false, false, false, false, false, false, false] [_] [_, _, _, _, _, _, _, _] rfl [0, 1, 2, 3, 4, 5, 6, 7] rfl [0, 1, 2, 3, 4, 5, 6, 7] (fun u_30 => [_, _, _, _, _, _, _, _]) (fun _ => rfl) (hs_upnd rfl) [true, false, false, false, false, false, false, false, false] (fun u_30 => [_, _, _, _, _, _, _, _, _]) (fun _ => rfl) (fun r_28 u_30 H locs hw_29 hP hD hS => ?_)
          refine hs_topi (A_jt (A_vfc n_N n_J n_F (nI kk)) (n_N 1)) hw_29 ?_
          refine hs_pi (va_runS (As := [.int (A_jt (A_vfc n_N n_J n_F (nI kk)) (n_N 1))]) (rest := []) ⟨hx, hb, hml, hown, hts⟩ (gf_bitCount l D k _ (A_jt (A_vfc n_N n_J n_F (nI kk)) (n_N 1))) (va_cwS 1 hts gX7_middle_J6_bitCount_0f7a4 rfl rfl rfl hq_J6_bitCount_0f7a4 ⟨Nat.le_of_ble_eq_true rfl, Nat.le_of_ble_eq_true rfl⟩) (hs_preS hK hN (hs_subP (w := []) hP [] rfl) (hD.sub (ws' := []) [] rfl rfl)) rfl rfl hl.1 rfl (lv_room (Nat.le_of_ble_eq_true rfl)) dX7_middle_49 ⟨Nat.le_of_ble_eq_true rfl, Nat.le_of_ble_eq_true rfl⟩) hP hD hS hA (fun r_31 u_33 H locs hw_32 hP hS => ?_)
          refine hs_topi (A_bc (A_jt (A_vfc n_N n_J n_F (nI kk)) (n_N 1))) hw_32 ?_
          refine lv_istore (lv' := [(5, .int (A_bc (A_jt (A_vfc n_N n_J n_F (nI kk)) (n_N 1)))), (4, .int (nI kk)), (3, .int most), (2, .int best), (0, .ref h), (1, .int 1)]) hx hb dX7_middle_52 hl (Nat.le_of_ble_eq_true rfl) rfl (fun ls hl => ?_)
          refine lv_iload hx hb dX7_middle_54 (lv_at hl 0 rfl) ?_
          refine lv_iload_n hx hb dX7_middle_56 rfl (lv_at hl 2 rfl) ?_
          refine lv_icmp_le (tgt := 66) hx hb dX7_middle_57 rfl (fun c_34 => ?_) (fun c_34 => ?_)
          · refine lv_iinc (v := nI (kk + 1)) (lv' := [(4, .int (nI (kk + 1))), (5, .int (A_bc (A_jt (A_vfc n_N n_J n_F (nI kk)) (n_N 1)))), (3, .int most), (2, .int best), (0, .ref h), (1, .int 1)]) hx hb dX7_middle_66 hl (k := 1) rfl (nI_add (kk) 1) (Nat.le_of_ble_eq_true rfl) rfl (fun ls hl => ?_)
            refine lv_goto (tgt := 28) hx hb dX7_middle_69 rfl ?_
            exact ih28 (best, most, kk + 1) (by (try dsimp only); exact ⟨by omega, by omega, by rw [A_mxC_s _ hI.1, if_neg (show ¬ (A_mxC (A_miC n_N n_J n_F) (kk - 2)).2 < (A_miC n_N n_J n_F) kk by rw [← hI.2.2.2]; exact Int32.not_lt.mpr c_34)]; exact hI.2.2.1, by rw [A_mxC_s _ hI.1, if_neg (show ¬ (A_mxC (A_miC n_N n_J n_F) (kk - 2)).2 < (A_miC n_N n_J n_F) kk by rw [← hI.2.2.2]; exact Int32.not_lt.mpr c_34)]; exact hI.2.2.2⟩) (by (try dsimp only); omega) _ _ _ hP hD hS (lv_sub hl [0, 2, 3, 4, 5] rfl)
          · refine lv_iload hx hb dX7_middle_60 (lv_at hl 1 rfl) ?_
            refine lv_istore_n (lv' := [(2, .int (nI kk)), (5, .int (A_bc (A_jt (A_vfc n_N n_J n_F (nI kk)) (n_N 1)))), (4, .int (nI kk)), (3, .int most), (0, .ref h), (1, .int 1)]) hx hb dX7_middle_62 rfl hl (Nat.le_of_ble_eq_true rfl) rfl (fun ls hl => ?_)
            refine lv_iload hx hb dX7_middle_63 (lv_at hl 1 rfl) ?_
            refine lv_istore_n (lv' := [(3, .int (A_bc (A_jt (A_vfc n_N n_J n_F (nI kk)) (n_N 1)))), (2, .int (nI kk)), (5, .int (A_bc (A_jt (A_vfc n_N n_J n_F (nI kk)) (n_N 1)))), (4, .int (nI kk)), (0, .ref h), (1, .int 1)]) hx hb dX7_middle_65 rfl hl (Nat.le_of_ble_eq_true rfl) rfl (fun ls hl => ?_)
            refine lv_iinc (v := nI (kk + 1)) (lv' := [(4, .int (nI (kk + 1))), (3, .int (A_bc (A_jt (A_vfc n_N n_J n_F (nI kk)) (n_N 1)))), (2, .int (nI kk)), (5, .int (A_bc (A_jt (A_vfc n_N n_J n_F (nI kk)) (n_N 1)))), (0, .ref h), (1, .int 1)]) hx hb dX7_middle_66 hl (k := 3) rfl (nI_add (kk) 1) (Nat.le_of_ble_eq_true rfl) rfl (fun ls hl => ?_)
            refine lv_goto (tgt := 28) hx hb dX7_middle_69 rfl ?_
            exact ih28 (nI kk, A_bc (A_jt (A_vfc n_N n_J n_F (nI kk)) (n_N 1)), kk + 1) (by (try dsimp only); exact ⟨by omega, by omega, by rw [A_mxC_s _ hI.1, if_pos (show (A_mxC (A_miC n_N n_J n_F) (kk - 2)).2 < (A_miC n_N n_J n_F) kk by rw [← hI.2.2.2]; exact Int32.not_le.mp c_34)]; try rfl, by rw [A_mxC_s _ hI.1, if_pos (show (A_mxC (A_miC n_N n_J n_F) (kk - 2)).2 < (A_miC n_N n_J n_F) kk by rw [← hI.2.2.2]; exact Int32.not_le.mp c_34)]; try rfl⟩) (by (try dsimp only); omega) _ _ _ hP hD hS (lv_sub hl [0, 1, 2, 4, 5] rfl)
      · (try dsimp only); exact ⟨by decide, by omega, rfl, rfl⟩
  · refine lv_iconst (v := (-1)) hx hb dX7_middle_9 hki_m1 ?_
    exact hs_iret hx hb hr hlocks hK hP hD hS () [0, 1, 2, 3, 4, 5, 6, 7, 8] rfl (hs_upnd rfl) dX7_middle_10 ((by rw [A_midC, if_neg (by rw [hs_n0 c_4]; decide)]))

set_option maxHeartbeats 4000000 in
set_option maxRecDepth 100000 in
theorem gqf_middle (l : Launch) (D : va_G) (k : Nat → ClassId) (sz : Nat) (mo : Nat) (mo_st : Nat) (mo_at : Nat) (mo_isKept : Nat) (mo_pe : Nat) (mo_hm : Nat) (mo_draft : Nat) (mo_dp : Nat) (mo_dh : Nat) (mo_toldLines : Int32) (mo_highest : Int32) (mo_tape : Nat) (mo_tl : Nat) (mo_ps : Nat) (mo_fr : Nat) (mo_sort : Int32) (mo_value : Int32) (mo_ft : Nat) (mo_wrongAt : Int32) (mo_row : Nat) (mo_orderMany : Int32) (mo_fo : Nat) (mo_lightest : Int32) (mo_heaviest : Int32) (mo_before : Nat) (mo_justSum : Int64) (mo_toldSum : Int64) (mo_allWays : Int64) (mo_lanes : Nat) (mo_sizes : Nat) (mo_cells : Nat) (mo_torn : Int32) (mo_had : Nat) (sf : Nat → Int32) (c0 : Nat) (c3 : Nat) (c4 : Nat) (fi : Nat) (af : Nat → Int32) (what : Int32) (e0 : sf 0 = nI c0) (h0 : c0 ≤ 8) (h02 : 2 ≤ c0) (e3 : sf 16 = nI c3) (h3 : c3 ≤ 8) (e4 : sf 25 = nI c4) (h4 : c4 ≤ 6) (hpe : mo_pe ≤ 4) (hm2 : 2 ≤ mo_hm) (hm5 : mo_hm ≤ 5) (ef : sf 14 = nI fi) (hfi : fi ≤ 99) (hsaw : ∀ i, i < c4 → vp_in (sf (26 + 3 * i)) 4) : MI l yX8_middle wsX8_middle ({ frames := 5, cells := 0, slots := 0, locals := 116 }) D k [.ref mo, .int what] [oq7 mo mo_st mo_at mo_isKept (nI mo_pe) (nI mo_hm) mo_draft (nI mo_dp) (nI mo_dh) mo_toldLines mo_highest mo_tape (nI mo_tl) (nI mo_ps) (nI mo_fr) mo_sort mo_value (nI mo_ft) mo_wrongAt mo_row mo_orderMany (nI mo_fo) mo_lightest mo_heaviest mo_before mo_justSum mo_toldSum mo_allWays mo_lanes mo_sizes mo_cells mo_torn mo_had, oqI k mo_st 132 (sf), oqI k mo_at 44 (af)] sz (fun (r : Int32) (u : Nat → Int32) => r = A_midM c0 mo_pe sf what) (fun (u : Nat → Int32) => [oq7 mo mo_st mo_at mo_isKept (nI mo_pe) (nI mo_hm) mo_draft (nI mo_dp) (nI mo_dh) mo_toldLines mo_highest mo_tape (nI mo_tl) (nI mo_ps) (nI mo_fr) mo_sort mo_value (nI mo_ft) mo_wrongAt mo_row mo_orderMany (nI mo_fo) mo_lightest mo_heaviest mo_before mo_justSum mo_toldSum mo_allWays mo_lanes mo_sizes mo_cells mo_torn mo_had, oqI k mo_st 132 (sf), oqI k mo_at 44 (u)]) := by
  refine Met.ofW (cc := cX8_middle) (maxL := 6) (ret := (some .int)) hpn_X8 rfl ?_
  intro p e s m args below meth c s₁ B hml hv
  obtain ⟨rfl, hsz, hP, hK, hD0, hN⟩ := hv
  have hx := B.exec
  have hb := B.bytes
  have hr := B.returns
  have hlocks := B.notSynchronized
  have hts := atoms_spec (ws := wsX8_middle) B.pre
  have hown := findClass_of_methodNamed B.named
  have hown : s.vm.findClass RX8 = some m.cls := hown
  have hiX8 : ∀ w ∈ u_ws RX8 TX8 32, w ∈ wsX8_middle := fun w9 hw9 => List.mem_cons_of_mem _ (igX8 w9 hw9)
  have fl13 := hts (.fieldLink RX8 13 "HalfScalesModel" "at" "[I") (List.mem_cons_of_mem _ (hs_inG 4 81 rfl rfl))
  subst hsz
  have hD := hD0.self (sz := s.heap.size)
  generalize hAe : va_A [oq7 mo mo_st mo_at mo_isKept (nI mo_pe) (nI mo_hm) mo_draft (nI mo_dp) (nI mo_dh) mo_toldLines mo_highest mo_tape (nI mo_tl) (nI mo_ps) (nI mo_fr) mo_sort mo_value (nI mo_ft) mo_wrongAt mo_row mo_orderMany (nI mo_fo) mo_lightest mo_heaviest mo_before mo_justSum mo_toldSum mo_allWays mo_lanes mo_sizes mo_cells mo_torn mo_had, oqI k mo_st 132 (sf), oqI k mo_at 44 (af)] s.heap.size = A at hD ⊢
  have hA : ∀ q : Nat, s.heap.size ≤ q → A q := fun q h => by rw [← hAe]; exact Or.inr h
  have hS : va_S A s.heap s.heap [] := va_S.rf
  have hl := lv_entry ([.ref mo, .int what]) (n := 6) (Nat.le_of_ble_eq_true rfl)
  rw [lg_entry_eq]
  generalize (lg_sl ([.ref mo, .int what]) ++ List.replicate (6 - (lg_sl ([.ref mo, .int what])).length) Slot.unset).toArray = ls at hl ⊢
  have hl : lv_has ls 6 [(0, .ref mo), (1, .int what)] := hl
  have hP : va_P D vwCl [oq7 mo mo_st mo_at mo_isKept (nI mo_pe) (nI mo_hm) mo_draft (nI mo_dp) (nI mo_dh) mo_toldLines mo_highest mo_tape (nI mo_tl) (nI mo_ps) (nI mo_fr) mo_sort mo_value (nI mo_ft) mo_wrongAt mo_row mo_orderMany (nI mo_fo) mo_lightest mo_heaviest mo_before mo_justSum mo_toldSum mo_allWays mo_lanes mo_sizes mo_cells mo_torn mo_had, oqI k mo_st 132 (sf), oqI k mo_at 44 (af)] s.heap := hP
  refine lv_iload_n hx hb dX8_middle_0 rfl (lv_at hl 1 rfl) ?_
  refine hs_pi (va_runS (As := [.int what]) (rest := []) ⟨hx, hb, hml, hown, hts⟩ (gm_isPart l D k _ what) (va_cwS 1 hts gX8_middle_X8_isPart rfl rfl rfl hq_X8_isPart ⟨Nat.le_of_ble_eq_true rfl, Nat.le_of_ble_eq_true rfl⟩) (hs_preS hK hN (hs_subP (w := []) hP [] rfl) (hD.sub (ws' := []) [] rfl rfl)) rfl rfl hl.1 rfl (lv_room (Nat.le_of_ble_eq_true rfl)) dX8_middle_1 ⟨Nat.le_of_ble_eq_true rfl, Nat.le_of_ble_eq_true rfl⟩) hP hD hS hA (fun r_1 u_3 H locs hw_2 hP hS => ?_)
  refine hs_topi (hsb (hsin what 0 1)) hw_2 ?_
  refine lv_if_ne (tgt := 9) hx hb dX8_middle_4 rfl (fun c_4 => ?_) (fun c_4 => ?_)
  · rcases hs_v01 (hs_nb c_4) with rfl | rfl
    · refine lv_aload_n hx hb dX8_middle_9 rfl (lv_at hl 0 rfl) ?_
      refine hs_cvM (va_runV (As := []) (rest := []) ⟨hx, hb, hml, hown, hts⟩ (gm_starts l D k _ mo mo_st mo_at mo_isKept mo_pe mo_hm mo_draft mo_dp mo_dh mo_toldLines mo_highest mo_tape mo_tl mo_ps mo_fr mo_sort mo_value mo_ft mo_wrongAt mo_row mo_orderMany mo_fo mo_lightest mo_heaviest mo_before mo_justSum mo_toldSum mo_allWays mo_lanes mo_sizes mo_cells mo_torn mo_had sf af) (cwV 0 hts gX8_middle_X8_starts rfl rfl rfl ⟨rfl, hq_X8_starts⟩ ⟨Nat.le_of_ble_eq_true rfl, Nat.le_of_ble_eq_true rfl⟩) (hs_preV hK hN (hs_subP (w := [_, _, _]) hP [0, 1, 2] rfl) (hD.sub (ws' := [_, _, _]) [0, 1, 2] (hs_upnd rfl) rfl) (ci := 7) (q0 := 0) rfl rfl) rfl rfl hl.1 rfl (lv_room (Nat.le_of_ble_eq_true rfl)) dX8_middle_10 ⟨Nat.le_of_ble_eq_true rfl, Nat.le_of_ble_eq_true rfl⟩) hP hD hS hA [false, false, false] [] [_, _, _] rfl [0, 1, 2] rfl [0, 1, 2] (fun u_7 => [_, _, _]) (fun _ => rfl) (hs_upnd rfl) [false, false, false] (fun u_7 => [_, _, _]) (fun _ => rfl) (fun u_7 H locs hw_6 hP hD hS => ?_)
      have hw_6 : ∀ j, j < 44 → u_7 j = sf j := hw_6
      have e0a : u_7 0 = nI c0 := (hw_6 0 (by decide)).trans e0
      have e3a : u_7 16 = nI c3 := (hw_6 16 (by decide)).trans e3
      have e4a : u_7 25 = nI c4 := (hw_6 25 (by decide)).trans e4
      have hw_6 : ∀ j, j < 44 → u_7 j = sf j := hw_6
      refine lv_iconst (v := (-1)) hx hb dX8_middle_13 hki_m1 ?_
      refine lv_istore_n (lv' := [(2, .int (-1)), (0, .ref mo), (1, .int 0)]) hx hb dX8_middle_14 rfl hl (Nat.le_of_ble_eq_true rfl) rfl (fun ls hl => ?_)
      refine lv_iconst (v := 1) hx hb dX8_middle_15 hki_1 ?_
      refine lv_istore_n (lv' := [(3, .int 1), (2, .int (-1)), (0, .ref mo), (1, .int 0)]) hx hb dX8_middle_16 rfl hl (Nat.le_of_ble_eq_true rfl) rfl (fun ls hl => ?_)
      refine lv_iconst (v := 1) hx hb dX8_middle_17 hki_1 ?_
      refine lv_istore (lv' := [(4, .int 1), (3, .int 1), (2, .int (-1)), (0, .ref mo), (1, .int 0)]) hx hb dX8_middle_18 hl (Nat.le_of_ble_eq_true rfl) rfl (fun ls hl => ?_)
      refine hs_while (σ := Int32 × Int32 × Nat) (fun x => 1 ≤ x.2.2 ∧ x.2.2 - 1 ≤ c0 - 1 ∧ x.2.1 = (A_mxM (A_miM c0 mo_pe sf) (x.2.2 - 1)).1 ∧ x.1 = (A_mxM (A_miM c0 mo_pe sf) (x.2.2 - 1)).2) (fun x => c0 + 1 - x.2.2) (fun x => [oq7 mo mo_st mo_at mo_isKept (nI mo_pe) (nI mo_hm) mo_draft (nI mo_dp) (nI mo_dh) mo_toldLines mo_highest mo_tape (nI mo_tl) (nI mo_ps) (nI mo_fr) mo_sort mo_value (nI mo_ft) mo_wrongAt mo_row mo_orderMany (nI mo_fo) mo_lightest mo_heaviest mo_before mo_justSum mo_toldSum mo_allWays mo_lanes mo_sizes mo_cells mo_torn mo_had, oqI k mo_st 132 (sf), oqI k mo_at 44 (u_7)]) (fun x => [(4, .int (nI (x.2.2))), (3, .int (x.2.1)), (2, .int (x.1)), (0, .ref mo), (1, .int 0)]) ?_ ((-1), 1, 1) ?_ hP hD hS hl
      · intro x hI ih20 H locs ls hP hD hS hl
        obtain ⟨mx, fo, kk⟩ := x
        try dsimp only at hI
        have hP : va_P D vwCl [_, _, _] H := hP
        have hD : va_D A [_, _, _] := hD
        have hl : lv_has ls 6 [(4, .int (nI kk)), (3, .int fo), (2, .int mx), (0, .ref mo), (1, .int 0)] := hl
        refine lv_iload hx hb dX8_middle_20 (lv_at hl 0 rfl) ?_
        refine lv_aload_n hx hb dX8_middle_22 rfl (lv_at hl 3 rfl) ?_
        refine va_get (D := D) (ci := 7) (v := .ref mo_at) (C := RX8) (T := TX8) (N := 32) hx hb hts hiX8 hown hK hP 0 rfl rfl 1 (Nat.le_of_ble_eq_true rfl) fl13 (fun _ h9 => h9) rfl dX8_middle_23 ?_
        refine lv_iconst (v := 0) hx hb dX8_middle_26 hki_0 ?_
        refine va_iald hx hb hK hP 2 0 rfl rfl (hs_in (by decide)) dX8_middle_27 ?_
        refine hs_topi (nI c0) e0a ?_
        refine lv_icmp_ge (tgt := 74) hx hb dX8_middle_28 rfl (fun c_8 => ?_) (fun c_8 => ?_)
        · have nc_8 : c0 ≤ kk := (nI_leI (a := c0) (b := kk) (by omega) (by omega)).mp c_8
          refine lv_iload_n hx hb dX8_middle_74 rfl (lv_at hl 4 rfl) ?_
          refine lv_if_ne (tgt := 82) hx hb dX8_middle_75 rfl (fun c_9 => absurd c_9 (by decide)) (fun c_9 => ?_)
          refine lv_iload_n hx hb dX8_middle_78 rfl (lv_at hl 1 rfl) ?_
          refine lv_goto (tgt := 83) hx hb dX8_middle_79 rfl ?_
          exact hs_iret hx hb hr hlocks hK hP hD hS u_7 [0, 1, 2] rfl (hs_upnd rfl) dX8_middle_83 ((by rw [A_midM, if_pos (by decide), if_pos rfl, hI.2.2.1, show kk - 1 = c0 - 1 by omega]))
        · have nc_8 : ¬ c0 ≤ kk := fun hq9 => c_8 ((nI_leI (a := c0) (b := kk) (by omega) (by omega)).mpr hq9)
          refine lv_aload_n hx hb dX8_middle_31 rfl (lv_at hl 3 rfl) ?_
          refine lv_iload hx hb dX8_middle_32 (lv_at hl 0 rfl) ?_
          refine hs_ciM (va_runV (As := [.int (nI kk)]) (rest := []) ⟨hx, hb, hml, hown, hts⟩ (gr_justTo l D k _ mo mo_st mo_at mo_isKept mo_pe mo_hm mo_draft mo_dp mo_dh mo_toldLines mo_highest mo_tape mo_tl mo_ps mo_fr mo_sort mo_value mo_ft mo_wrongAt mo_row mo_orderMany mo_fo mo_lightest mo_heaviest mo_before mo_justSum mo_toldSum mo_allWays mo_lanes mo_sizes mo_cells mo_torn mo_had u_7 c0 (nI kk) (by first | exact e0a | exact e0) (by omega) (by omega)) (cwV 1 hts gX8_middle_X8_justTo rfl rfl rfl ⟨rfl, hq_X8_justTo⟩ ⟨Nat.le_of_ble_eq_true rfl, Nat.le_of_ble_eq_true rfl⟩) (hs_preV hK hN (hs_subP (w := [_, _]) hP [0, 2] rfl) (hD.sub (ws' := [_, _]) [0, 2] (hs_upnd rfl) rfl) (ci := 7) (q0 := 0) rfl rfl) rfl rfl hl.1 rfl (lv_room (Nat.le_of_ble_eq_true rfl)) dX8_middle_34 ⟨Nat.le_of_ble_eq_true rfl, Nat.le_of_ble_eq_true rfl⟩) hP hD hS hA [false, true, false] [_] [_, _] rfl [0, 1] rfl [0, 1] (fun u_12 => [_, _]) (fun _ => rfl) (hs_upnd rfl) [false, true, false] (fun u_12 => [_, _, _]) (fun _ => rfl) (fun r_10 u_12 H locs hw_11 hP hD hS => ?_)
          refine hs_topi (A_jt (A_vfm c0 u_7 (nI kk)) mo_pe) hw_11 ?_
          refine hs_pi (va_runS (As := [.int (A_jt (A_vfm c0 u_7 (nI kk)) mo_pe)]) (rest := []) ⟨hx, hb, hml, hown, hts⟩ (gr_bitsOf l D k _ (A_jt (A_vfm c0 u_7 (nI kk)) mo_pe)) (va_cwS 1 hts gX8_middle_X8_bitsOf rfl rfl rfl hq_X8_bitsOf ⟨Nat.le_of_ble_eq_true rfl, Nat.le_of_ble_eq_true rfl⟩) (hs_preS hK hN (hs_subP (w := []) hP [] rfl) (hD.sub (ws' := []) [] rfl rfl)) rfl rfl hl.1 rfl (lv_room (Nat.le_of_ble_eq_true rfl)) dX8_middle_37 ⟨Nat.le_of_ble_eq_true rfl, Nat.le_of_ble_eq_true rfl⟩) hP hD hS hA (fun r_13 u_15 H locs hw_14 hP hS => ?_)
          refine hs_topi (A_bo (A_jt (A_vfm c0 u_7 (nI kk)) mo_pe) 8) hw_14 ?_
          refine lv_istore (lv' := [(5, .int (A_bo (A_jt (A_vfm c0 u_7 (nI kk)) mo_pe) 8)), (4, .int (nI kk)), (3, .int fo), (2, .int mx), (0, .ref mo), (1, .int 0)]) hx hb dX8_middle_40 hl (Nat.le_of_ble_eq_true rfl) rfl (fun ls hl => ?_)
          refine lv_iload hx hb dX8_middle_42 (lv_at hl 0 rfl) ?_
          refine lv_iload_n hx hb dX8_middle_44 rfl (lv_at hl 3 rfl) ?_
          refine lv_icmp_le (tgt := 53) hx hb dX8_middle_45 rfl (fun c_16 => ?_) (fun c_16 => ?_)
          · refine lv_iload_n hx hb dX8_middle_53 rfl (lv_at hl 2 rfl) ?_
            refine lv_istore_n (lv' := [(3, .int fo), (5, .int (A_bo (A_jt (A_vfm c0 u_7 (nI kk)) mo_pe) 8)), (4, .int (nI kk)), (2, .int mx), (0, .ref mo), (1, .int 0)]) hx hb dX8_middle_54 rfl hl (Nat.le_of_ble_eq_true rfl) rfl (fun ls hl => ?_)
            refine lv_iload hx hb dX8_middle_55 (lv_at hl 1 rfl) ?_
            refine lv_iload_n hx hb dX8_middle_57 rfl (lv_at hl 3 rfl) ?_
            refine lv_icmp_le (tgt := 66) hx hb dX8_middle_58 rfl (fun c_17 => ?_) (fun c_17 => ?_)
            · refine lv_iload_n hx hb dX8_middle_66 rfl (lv_at hl 3 rfl) ?_
              refine lv_istore_n (lv' := [(2, .int mx), (3, .int fo), (5, .int (A_bo (A_jt (A_vfm c0 u_7 (nI kk)) mo_pe) 8)), (4, .int (nI kk)), (0, .ref mo), (1, .int 0)]) hx hb dX8_middle_67 rfl hl (Nat.le_of_ble_eq_true rfl) rfl (fun ls hl => ?_)
              refine lv_iinc (v := nI (kk + 1)) (lv' := [(4, .int (nI (kk + 1))), (2, .int mx), (3, .int fo), (5, .int (A_bo (A_jt (A_vfm c0 u_7 (nI kk)) mo_pe) 8)), (0, .ref mo), (1, .int 0)]) hx hb dX8_middle_68 hl (k := 3) rfl (nI_add (kk) 1) (Nat.le_of_ble_eq_true rfl) rfl (fun ls hl => ?_)
              refine lv_goto (tgt := 20) hx hb dX8_middle_71 rfl ?_
              exact ih20 (mx, fo, kk + 1) (by (try dsimp only); exact ⟨by omega, by omega, by rw [A_mxM_s _ hI.1, if_neg (show ¬ (A_mxM (A_miM c0 mo_pe sf) (kk - 1)).2 < (A_miM c0 mo_pe sf) kk by rw [← hI.2.2.2, ← A_miM_congr (by omega) (by omega) (fun x hx => hw_6 x (by omega)) kk]; exact Int32.not_lt.mpr c_16)]; exact hI.2.2.1, by rw [A_mxM_s _ hI.1, if_neg (show ¬ (A_mxM (A_miM c0 mo_pe sf) (kk - 1)).2 < (A_miM c0 mo_pe sf) kk by rw [← hI.2.2.2, ← A_miM_congr (by omega) (by omega) (fun x hx => hw_6 x (by omega)) kk]; exact Int32.not_lt.mpr c_16)]; exact hI.2.2.2⟩) (by (try dsimp only); omega) _ _ _ hP hD hS (lv_sub hl [0, 2, 1, 4, 5] rfl)
            · refine lv_iload hx hb dX8_middle_61 (lv_at hl 1 rfl) ?_
              refine lv_goto (tgt := 67) hx hb dX8_middle_63 rfl ?_
              refine lv_istore_n (lv' := [(2, .int (A_bo (A_jt (A_vfm c0 u_7 (nI kk)) mo_pe) 8)), (3, .int fo), (5, .int (A_bo (A_jt (A_vfm c0 u_7 (nI kk)) mo_pe) 8)), (4, .int (nI kk)), (0, .ref mo), (1, .int 0)]) hx hb dX8_middle_67 rfl hl (Nat.le_of_ble_eq_true rfl) rfl (fun ls hl => ?_)
              refine lv_iinc (v := nI (kk + 1)) (lv' := [(4, .int (nI (kk + 1))), (2, .int (A_bo (A_jt (A_vfm c0 u_7 (nI kk)) mo_pe) 8)), (3, .int fo), (5, .int (A_bo (A_jt (A_vfm c0 u_7 (nI kk)) mo_pe) 8)), (0, .ref mo), (1, .int 0)]) hx hb dX8_middle_68 hl (k := 3) rfl (nI_add (kk) 1) (Nat.le_of_ble_eq_true rfl) rfl (fun ls hl => ?_)
              refine lv_goto (tgt := 20) hx hb dX8_middle_71 rfl ?_
              exact ih20 (A_bo (A_jt (A_vfm c0 u_7 (nI kk)) mo_pe) 8, fo, kk + 1) (by (try dsimp only); exact absurd c_16 c_17) (by (try dsimp only); omega) _ _ _ hP hD hS (lv_sub hl [0, 2, 1, 4, 5] rfl)
          · refine lv_iload hx hb dX8_middle_48 (lv_at hl 1 rfl) ?_
            refine lv_goto (tgt := 54) hx hb dX8_middle_50 rfl ?_
            refine lv_istore_n (lv' := [(3, .int (nI kk)), (5, .int (A_bo (A_jt (A_vfm c0 u_7 (nI kk)) mo_pe) 8)), (4, .int (nI kk)), (2, .int mx), (0, .ref mo), (1, .int 0)]) hx hb dX8_middle_54 rfl hl (Nat.le_of_ble_eq_true rfl) rfl (fun ls hl => ?_)
            refine lv_iload hx hb dX8_middle_55 (lv_at hl 1 rfl) ?_
            refine lv_iload_n hx hb dX8_middle_57 rfl (lv_at hl 3 rfl) ?_
            refine lv_icmp_le (tgt := 66) hx hb dX8_middle_58 rfl (fun c_18 => ?_) (fun c_18 => ?_)
            · refine lv_iload_n hx hb dX8_middle_66 rfl (lv_at hl 3 rfl) ?_
              refine lv_istore_n (lv' := [(2, .int mx), (3, .int (nI kk)), (5, .int (A_bo (A_jt (A_vfm c0 u_7 (nI kk)) mo_pe) 8)), (4, .int (nI kk)), (0, .ref mo), (1, .int 0)]) hx hb dX8_middle_67 rfl hl (Nat.le_of_ble_eq_true rfl) rfl (fun ls hl => ?_)
              refine lv_iinc (v := nI (kk + 1)) (lv' := [(4, .int (nI (kk + 1))), (2, .int mx), (3, .int (nI kk)), (5, .int (A_bo (A_jt (A_vfm c0 u_7 (nI kk)) mo_pe) 8)), (0, .ref mo), (1, .int 0)]) hx hb dX8_middle_68 hl (k := 3) rfl (nI_add (kk) 1) (Nat.le_of_ble_eq_true rfl) rfl (fun ls hl => ?_)
              refine lv_goto (tgt := 20) hx hb dX8_middle_71 rfl ?_
              exact ih20 (mx, nI kk, kk + 1) (by (try dsimp only); exact absurd c_18 c_16) (by (try dsimp only); omega) _ _ _ hP hD hS (lv_sub hl [0, 2, 1, 4, 5] rfl)
            · refine lv_iload hx hb dX8_middle_61 (lv_at hl 1 rfl) ?_
              refine lv_goto (tgt := 67) hx hb dX8_middle_63 rfl ?_
              refine lv_istore_n (lv' := [(2, .int (A_bo (A_jt (A_vfm c0 u_7 (nI kk)) mo_pe) 8)), (3, .int (nI kk)), (5, .int (A_bo (A_jt (A_vfm c0 u_7 (nI kk)) mo_pe) 8)), (4, .int (nI kk)), (0, .ref mo), (1, .int 0)]) hx hb dX8_middle_67 rfl hl (Nat.le_of_ble_eq_true rfl) rfl (fun ls hl => ?_)
              refine lv_iinc (v := nI (kk + 1)) (lv' := [(4, .int (nI (kk + 1))), (2, .int (A_bo (A_jt (A_vfm c0 u_7 (nI kk)) mo_pe) 8)), (3, .int (nI kk)), (5, .int (A_bo (A_jt (A_vfm c0 u_7 (nI kk)) mo_pe) 8)), (0, .ref mo), (1, .int 0)]) hx hb dX8_middle_68 hl (k := 3) rfl (nI_add (kk) 1) (Nat.le_of_ble_eq_true rfl) rfl (fun ls hl => ?_)
              refine lv_goto (tgt := 20) hx hb dX8_middle_71 rfl ?_
              exact ih20 (A_bo (A_jt (A_vfm c0 u_7 (nI kk)) mo_pe) 8, nI kk, kk + 1) (by (try dsimp only); exact ⟨by omega, by omega, by rw [A_mxM_s _ hI.1, if_pos (show (A_mxM (A_miM c0 mo_pe sf) (kk - 1)).2 < (A_miM c0 mo_pe sf) kk by rw [← hI.2.2.2, ← A_miM_congr (by omega) (by omega) (fun x hx => hw_6 x (by omega)) kk]; exact Int32.not_le.mp c_16)]; try rfl, by rw [A_mxM_s _ hI.1, if_pos (show (A_mxM (A_miM c0 mo_pe sf) (kk - 1)).2 < (A_miM c0 mo_pe sf) kk by rw [← hI.2.2.2, ← A_miM_congr (by omega) (by omega) (fun x hx => hw_6 x (by omega)) kk]; exact Int32.not_le.mp c_16)]; exact A_miM_congr (by omega) (by omega) (fun x hx => hw_6 x (by omega)) kk⟩) (by (try dsimp only); omega) _ _ _ hP hD hS (lv_sub hl [0, 2, 1, 4, 5] rfl)
      · (try dsimp only); exact ⟨by decide, by omega, rfl, rfl⟩
    · refine lv_aload_n hx hb dX8_middle_9 rfl (lv_at hl 0 rfl) ?_
      refine hs_cvM (va_runV (As := []) (rest := []) ⟨hx, hb, hml, hown, hts⟩ (gm_starts l D k _ mo mo_st mo_at mo_isKept mo_pe mo_hm mo_draft mo_dp mo_dh mo_toldLines mo_highest mo_tape mo_tl mo_ps mo_fr mo_sort mo_value mo_ft mo_wrongAt mo_row mo_orderMany mo_fo mo_lightest mo_heaviest mo_before mo_justSum mo_toldSum mo_allWays mo_lanes mo_sizes mo_cells mo_torn mo_had sf af) (cwV 0 hts gX8_middle_X8_starts rfl rfl rfl ⟨rfl, hq_X8_starts⟩ ⟨Nat.le_of_ble_eq_true rfl, Nat.le_of_ble_eq_true rfl⟩) (hs_preV hK hN (hs_subP (w := [_, _, _]) hP [0, 1, 2] rfl) (hD.sub (ws' := [_, _, _]) [0, 1, 2] (hs_upnd rfl) rfl) (ci := 7) (q0 := 0) rfl rfl) rfl rfl hl.1 rfl (lv_room (Nat.le_of_ble_eq_true rfl)) dX8_middle_10 ⟨Nat.le_of_ble_eq_true rfl, Nat.le_of_ble_eq_true rfl⟩) hP hD hS hA [false, false, false] [] [_, _, _] rfl [0, 1, 2] rfl [0, 1, 2] (fun u_21 => [_, _, _]) (fun _ => rfl) (hs_upnd rfl) [false, false, false] (fun u_21 => [_, _, _]) (fun _ => rfl) (fun u_21 H locs hw_20 hP hD hS => ?_)
      have hw_20 : ∀ j, j < 44 → u_21 j = sf j := hw_20
      have e0a : u_21 0 = nI c0 := (hw_20 0 (by decide)).trans e0
      have e3a : u_21 16 = nI c3 := (hw_20 16 (by decide)).trans e3
      have e4a : u_21 25 = nI c4 := (hw_20 25 (by decide)).trans e4
      have hw_20 : ∀ j, j < 44 → u_21 j = sf j := hw_20
      refine lv_iconst (v := (-1)) hx hb dX8_middle_13 hki_m1 ?_
      refine lv_istore_n (lv' := [(2, .int (-1)), (0, .ref mo), (1, .int 1)]) hx hb dX8_middle_14 rfl hl (Nat.le_of_ble_eq_true rfl) rfl (fun ls hl => ?_)
      refine lv_iconst (v := 1) hx hb dX8_middle_15 hki_1 ?_
      refine lv_istore_n (lv' := [(3, .int 1), (2, .int (-1)), (0, .ref mo), (1, .int 1)]) hx hb dX8_middle_16 rfl hl (Nat.le_of_ble_eq_true rfl) rfl (fun ls hl => ?_)
      refine lv_iconst (v := 1) hx hb dX8_middle_17 hki_1 ?_
      refine lv_istore (lv' := [(4, .int 1), (3, .int 1), (2, .int (-1)), (0, .ref mo), (1, .int 1)]) hx hb dX8_middle_18 hl (Nat.le_of_ble_eq_true rfl) rfl (fun ls hl => ?_)
      refine hs_while (σ := Int32 × Int32 × Nat) (fun x => 1 ≤ x.2.2 ∧ x.2.2 - 1 ≤ c0 - 1 ∧ x.2.1 = (A_mxM (A_miM c0 mo_pe sf) (x.2.2 - 1)).1 ∧ x.1 = (A_mxM (A_miM c0 mo_pe sf) (x.2.2 - 1)).2) (fun x => c0 + 1 - x.2.2) (fun x => [oq7 mo mo_st mo_at mo_isKept (nI mo_pe) (nI mo_hm) mo_draft (nI mo_dp) (nI mo_dh) mo_toldLines mo_highest mo_tape (nI mo_tl) (nI mo_ps) (nI mo_fr) mo_sort mo_value (nI mo_ft) mo_wrongAt mo_row mo_orderMany (nI mo_fo) mo_lightest mo_heaviest mo_before mo_justSum mo_toldSum mo_allWays mo_lanes mo_sizes mo_cells mo_torn mo_had, oqI k mo_st 132 (sf), oqI k mo_at 44 (u_21)]) (fun x => [(4, .int (nI (x.2.2))), (3, .int (x.2.1)), (2, .int (x.1)), (0, .ref mo), (1, .int 1)]) ?_ ((-1), 1, 1) ?_ hP hD hS hl
      · intro x hI ih20 H locs ls hP hD hS hl
        obtain ⟨mx, fo, kk⟩ := x
        try dsimp only at hI
        have hP : va_P D vwCl [_, _, _] H := hP
        have hD : va_D A [_, _, _] := hD
        have hl : lv_has ls 6 [(4, .int (nI kk)), (3, .int fo), (2, .int mx), (0, .ref mo), (1, .int 1)] := hl
        refine lv_iload hx hb dX8_middle_20 (lv_at hl 0 rfl) ?_
        refine lv_aload_n hx hb dX8_middle_22 rfl (lv_at hl 3 rfl) ?_
        refine va_get (D := D) (ci := 7) (v := .ref mo_at) (C := RX8) (T := TX8) (N := 32) hx hb hts hiX8 hown hK hP 0 rfl rfl 1 (Nat.le_of_ble_eq_true rfl) fl13 (fun _ h9 => h9) rfl dX8_middle_23 ?_
        refine lv_iconst (v := 0) hx hb dX8_middle_26 hki_0 ?_
        refine va_iald hx hb hK hP 2 0 rfl rfl (hs_in (by decide)) dX8_middle_27 ?_
        refine hs_topi (nI c0) e0a ?_
        refine lv_icmp_ge (tgt := 74) hx hb dX8_middle_28 rfl (fun c_22 => ?_) (fun c_22 => ?_)
        · have nc_22 : c0 ≤ kk := (nI_leI (a := c0) (b := kk) (by omega) (by omega)).mp c_22
          refine lv_iload_n hx hb dX8_middle_74 rfl (lv_at hl 4 rfl) ?_
          refine lv_if_ne (tgt := 82) hx hb dX8_middle_75 rfl (fun c_23 => ?_) (fun c_23 => absurd c_23 (by decide))
          refine lv_iload_n hx hb dX8_middle_82 rfl (lv_at hl 2 rfl) ?_
          exact hs_iret hx hb hr hlocks hK hP hD hS u_21 [0, 1, 2] rfl (hs_upnd rfl) dX8_middle_83 ((by rw [A_midM, if_pos (by decide), if_neg (by decide), hI.2.2.2, show kk - 1 = c0 - 1 by omega]))
        · have nc_22 : ¬ c0 ≤ kk := fun hq9 => c_22 ((nI_leI (a := c0) (b := kk) (by omega) (by omega)).mpr hq9)
          refine lv_aload_n hx hb dX8_middle_31 rfl (lv_at hl 3 rfl) ?_
          refine lv_iload hx hb dX8_middle_32 (lv_at hl 0 rfl) ?_
          refine hs_ciM (va_runV (As := [.int (nI kk)]) (rest := []) ⟨hx, hb, hml, hown, hts⟩ (gr_justTo l D k _ mo mo_st mo_at mo_isKept mo_pe mo_hm mo_draft mo_dp mo_dh mo_toldLines mo_highest mo_tape mo_tl mo_ps mo_fr mo_sort mo_value mo_ft mo_wrongAt mo_row mo_orderMany mo_fo mo_lightest mo_heaviest mo_before mo_justSum mo_toldSum mo_allWays mo_lanes mo_sizes mo_cells mo_torn mo_had u_21 c0 (nI kk) (by first | exact e0a | exact e0) (by omega) (by omega)) (cwV 1 hts gX8_middle_X8_justTo rfl rfl rfl ⟨rfl, hq_X8_justTo⟩ ⟨Nat.le_of_ble_eq_true rfl, Nat.le_of_ble_eq_true rfl⟩) (hs_preV hK hN (hs_subP (w := [_, _]) hP [0, 2] rfl) (hD.sub (ws' := [_, _]) [0, 2] (hs_upnd rfl) rfl) (ci := 7) (q0 := 0) rfl rfl) rfl rfl hl.1 rfl (lv_room (Nat.le_of_ble_eq_true rfl)) dX8_middle_34 ⟨Nat.le_of_ble_eq_true rfl, Nat.le_of_ble_eq_true rfl⟩) hP hD hS hA [false, true, false] [_] [_, _] rfl [0, 1] rfl [0, 1] (fun u_26 => [_, _]) (fun _ => rfl) (hs_upnd rfl) [false, true, false] (fun u_26 => [_, _, _]) (fun _ => rfl) (fun r_24 u_26 H locs hw_25 hP hD hS => ?_)
          refine hs_topi (A_jt (A_vfm c0 u_21 (nI kk)) mo_pe) hw_25 ?_
          refine hs_pi (va_runS (As := [.int (A_jt (A_vfm c0 u_21 (nI kk)) mo_pe)]) (rest := []) ⟨hx, hb, hml, hown, hts⟩ (gr_bitsOf l D k _ (A_jt (A_vfm c0 u_21 (nI kk)) mo_pe)) (va_cwS 1 hts gX8_middle_X8_bitsOf rfl rfl rfl hq_X8_bitsOf ⟨Nat.le_of_ble_eq_true rfl, Nat.le_of_ble_eq_true rfl⟩) (hs_preS hK hN (hs_subP (w := []) hP [] rfl) (hD.sub (ws' := []) [] rfl rfl)) rfl rfl hl.1 rfl (lv_room (Nat.le_of_ble_eq_true rfl)) dX8_middle_37 ⟨Nat.le_of_ble_eq_true rfl, Nat.le_of_ble_eq_true rfl⟩) hP hD hS hA (fun r_27 u_29 H locs hw_28 hP hS => ?_)
          refine hs_topi (A_bo (A_jt (A_vfm c0 u_21 (nI kk)) mo_pe) 8) hw_28 ?_
          refine lv_istore (lv' := [(5, .int (A_bo (A_jt (A_vfm c0 u_21 (nI kk)) mo_pe) 8)), (4, .int (nI kk)), (3, .int fo), (2, .int mx), (0, .ref mo), (1, .int 1)]) hx hb dX8_middle_40 hl (Nat.le_of_ble_eq_true rfl) rfl (fun ls hl => ?_)
          refine lv_iload hx hb dX8_middle_42 (lv_at hl 0 rfl) ?_
          refine lv_iload_n hx hb dX8_middle_44 rfl (lv_at hl 3 rfl) ?_
          refine lv_icmp_le (tgt := 53) hx hb dX8_middle_45 rfl (fun c_30 => ?_) (fun c_30 => ?_)
          · refine lv_iload_n hx hb dX8_middle_53 rfl (lv_at hl 2 rfl) ?_
            refine lv_istore_n (lv' := [(3, .int fo), (5, .int (A_bo (A_jt (A_vfm c0 u_21 (nI kk)) mo_pe) 8)), (4, .int (nI kk)), (2, .int mx), (0, .ref mo), (1, .int 1)]) hx hb dX8_middle_54 rfl hl (Nat.le_of_ble_eq_true rfl) rfl (fun ls hl => ?_)
            refine lv_iload hx hb dX8_middle_55 (lv_at hl 1 rfl) ?_
            refine lv_iload_n hx hb dX8_middle_57 rfl (lv_at hl 3 rfl) ?_
            refine lv_icmp_le (tgt := 66) hx hb dX8_middle_58 rfl (fun c_31 => ?_) (fun c_31 => ?_)
            · refine lv_iload_n hx hb dX8_middle_66 rfl (lv_at hl 3 rfl) ?_
              refine lv_istore_n (lv' := [(2, .int mx), (3, .int fo), (5, .int (A_bo (A_jt (A_vfm c0 u_21 (nI kk)) mo_pe) 8)), (4, .int (nI kk)), (0, .ref mo), (1, .int 1)]) hx hb dX8_middle_67 rfl hl (Nat.le_of_ble_eq_true rfl) rfl (fun ls hl => ?_)
              refine lv_iinc (v := nI (kk + 1)) (lv' := [(4, .int (nI (kk + 1))), (2, .int mx), (3, .int fo), (5, .int (A_bo (A_jt (A_vfm c0 u_21 (nI kk)) mo_pe) 8)), (0, .ref mo), (1, .int 1)]) hx hb dX8_middle_68 hl (k := 3) rfl (nI_add (kk) 1) (Nat.le_of_ble_eq_true rfl) rfl (fun ls hl => ?_)
              refine lv_goto (tgt := 20) hx hb dX8_middle_71 rfl ?_
              exact ih20 (mx, fo, kk + 1) (by (try dsimp only); exact ⟨by omega, by omega, by rw [A_mxM_s _ hI.1, if_neg (show ¬ (A_mxM (A_miM c0 mo_pe sf) (kk - 1)).2 < (A_miM c0 mo_pe sf) kk by rw [← hI.2.2.2, ← A_miM_congr (by omega) (by omega) (fun x hx => hw_20 x (by omega)) kk]; exact Int32.not_lt.mpr c_30)]; exact hI.2.2.1, by rw [A_mxM_s _ hI.1, if_neg (show ¬ (A_mxM (A_miM c0 mo_pe sf) (kk - 1)).2 < (A_miM c0 mo_pe sf) kk by rw [← hI.2.2.2, ← A_miM_congr (by omega) (by omega) (fun x hx => hw_20 x (by omega)) kk]; exact Int32.not_lt.mpr c_30)]; exact hI.2.2.2⟩) (by (try dsimp only); omega) _ _ _ hP hD hS (lv_sub hl [0, 2, 1, 4, 5] rfl)
            · refine lv_iload hx hb dX8_middle_61 (lv_at hl 1 rfl) ?_
              refine lv_goto (tgt := 67) hx hb dX8_middle_63 rfl ?_
              refine lv_istore_n (lv' := [(2, .int (A_bo (A_jt (A_vfm c0 u_21 (nI kk)) mo_pe) 8)), (3, .int fo), (5, .int (A_bo (A_jt (A_vfm c0 u_21 (nI kk)) mo_pe) 8)), (4, .int (nI kk)), (0, .ref mo), (1, .int 1)]) hx hb dX8_middle_67 rfl hl (Nat.le_of_ble_eq_true rfl) rfl (fun ls hl => ?_)
              refine lv_iinc (v := nI (kk + 1)) (lv' := [(4, .int (nI (kk + 1))), (2, .int (A_bo (A_jt (A_vfm c0 u_21 (nI kk)) mo_pe) 8)), (3, .int fo), (5, .int (A_bo (A_jt (A_vfm c0 u_21 (nI kk)) mo_pe) 8)), (0, .ref mo), (1, .int 1)]) hx hb dX8_middle_68 hl (k := 3) rfl (nI_add (kk) 1) (Nat.le_of_ble_eq_true rfl) rfl (fun ls hl => ?_)
              refine lv_goto (tgt := 20) hx hb dX8_middle_71 rfl ?_
              exact ih20 (A_bo (A_jt (A_vfm c0 u_21 (nI kk)) mo_pe) 8, fo, kk + 1) (by (try dsimp only); exact absurd c_30 c_31) (by (try dsimp only); omega) _ _ _ hP hD hS (lv_sub hl [0, 2, 1, 4, 5] rfl)
          · refine lv_iload hx hb dX8_middle_48 (lv_at hl 1 rfl) ?_
            refine lv_goto (tgt := 54) hx hb dX8_middle_50 rfl ?_
            refine lv_istore_n (lv' := [(3, .int (nI kk)), (5, .int (A_bo (A_jt (A_vfm c0 u_21 (nI kk)) mo_pe) 8)), (4, .int (nI kk)), (2, .int mx), (0, .ref mo), (1, .int 1)]) hx hb dX8_middle_54 rfl hl (Nat.le_of_ble_eq_true rfl) rfl (fun ls hl => ?_)
            refine lv_iload hx hb dX8_middle_55 (lv_at hl 1 rfl) ?_
            refine lv_iload_n hx hb dX8_middle_57 rfl (lv_at hl 3 rfl) ?_
            refine lv_icmp_le (tgt := 66) hx hb dX8_middle_58 rfl (fun c_32 => ?_) (fun c_32 => ?_)
            · refine lv_iload_n hx hb dX8_middle_66 rfl (lv_at hl 3 rfl) ?_
              refine lv_istore_n (lv' := [(2, .int mx), (3, .int (nI kk)), (5, .int (A_bo (A_jt (A_vfm c0 u_21 (nI kk)) mo_pe) 8)), (4, .int (nI kk)), (0, .ref mo), (1, .int 1)]) hx hb dX8_middle_67 rfl hl (Nat.le_of_ble_eq_true rfl) rfl (fun ls hl => ?_)
              refine lv_iinc (v := nI (kk + 1)) (lv' := [(4, .int (nI (kk + 1))), (2, .int mx), (3, .int (nI kk)), (5, .int (A_bo (A_jt (A_vfm c0 u_21 (nI kk)) mo_pe) 8)), (0, .ref mo), (1, .int 1)]) hx hb dX8_middle_68 hl (k := 3) rfl (nI_add (kk) 1) (Nat.le_of_ble_eq_true rfl) rfl (fun ls hl => ?_)
              refine lv_goto (tgt := 20) hx hb dX8_middle_71 rfl ?_
              exact ih20 (mx, nI kk, kk + 1) (by (try dsimp only); exact absurd c_32 c_30) (by (try dsimp only); omega) _ _ _ hP hD hS (lv_sub hl [0, 2, 1, 4, 5] rfl)
            · refine lv_iload hx hb dX8_middle_61 (lv_at hl 1 rfl) ?_
              refine lv_goto (tgt := 67) hx hb dX8_middle_63 rfl ?_
              refine lv_istore_n (lv' := [(2, .int (A_bo (A_jt (A_vfm c0 u_21 (nI kk)) mo_pe) 8)), (3, .int (nI kk)), (5, .int (A_bo (A_jt (A_vfm c0 u_21 (nI kk)) mo_pe) 8)), (4, .int (nI kk)), (0, .ref mo), (1, .int 1)]) hx hb dX8_middle_67 rfl hl (Nat.le_of_ble_eq_true rfl) rfl (fun ls hl => ?_)
              refine lv_iinc (v := nI (kk + 1)) (lv' := [(4, .int (nI (kk + 1))), (2, .int (A_bo (A_jt (A_vfm c0 u_21 (nI kk)) mo_pe) 8)), (3, .int (nI kk)), (5, .int (A_bo (A_jt (A_vfm c0 u_21 (nI kk)) mo_pe) 8)), (0, .ref mo), (1, .int 1)]) hx hb dX8_middle_68 hl (k := 3) rfl (nI_add (kk) 1) (Nat.le_of_ble_eq_true rfl) rfl (fun ls hl => ?_)
              refine lv_goto (tgt := 20) hx hb dX8_middle_71 rfl ?_
              exact ih20 (A_bo (A_jt (A_vfm c0 u_21 (nI kk)) mo_pe) 8, nI kk, kk + 1) (by (try dsimp only); exact ⟨by omega, by omega, by rw [A_mxM_s _ hI.1, if_pos (show (A_mxM (A_miM c0 mo_pe sf) (kk - 1)).2 < (A_miM c0 mo_pe sf) kk by rw [← hI.2.2.2, ← A_miM_congr (by omega) (by omega) (fun x hx => hw_20 x (by omega)) kk]; exact Int32.not_le.mp c_30)]; try rfl, by rw [A_mxM_s _ hI.1, if_pos (show (A_mxM (A_miM c0 mo_pe sf) (kk - 1)).2 < (A_miM c0 mo_pe sf) kk by rw [← hI.2.2.2, ← A_miM_congr (by omega) (by omega) (fun x hx => hw_20 x (by omega)) kk]; exact Int32.not_le.mp c_30)]; exact A_miM_congr (by omega) (by omega) (fun x hx => hw_20 x (by omega)) kk⟩) (by (try dsimp only); omega) _ _ _ hP hD hS (lv_sub hl [0, 2, 1, 4, 5] rfl)
      · (try dsimp only); exact ⟨by decide, by omega, rfl, rfl⟩
  · refine lv_iconst (v := (-1)) hx hb dX8_middle_7 hki_m1 ?_
    exact hs_iret hx hb hr hlocks hK hP hD hS af [0, 1, 2] rfl (hs_upnd rfl) dX8_middle_8 ((by rw [A_midM, if_neg (by rw [hs_n0 c_4]; decide)]))
