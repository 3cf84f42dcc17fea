set_option maxHeartbeats 4000000 in
set_option maxRecDepth 100000 in
theorem gpf_orders (l : Launch) (D : va_G) (k : Nat → ClassId) (sz : Nat) (h : Nat) (h_now : Nat) (h_trial : Nat) (h_images : Nat) (h_imageThere : Nat) (h_teller : Nat) (h_ranks : Nat) (h_court : Nat) (h_sheets : Nat) (h_lf : Int32) (h_lt : Int32) (n_a : Nat → Nat) (n_N : Nat → Nat) (n_J : Nat → Int32) (n_F : Nat → Nat → Int32) (q_ahead : Nat) (q_ways : Nat) (q_z : Nat) (af : Nat → Int32) (wf : Nat → Int32) (what : Int32) (hN0 : thN n_N) (hF : thF n_N n_F) (h2 : 2 ≤ n_N 0) (hB : thB n_N n_J n_F) (hPP : ∀ i, i < n_N 3 → (hLt n_F i < n_N 2 ∧ hHv n_F i < n_N 2)) (hWW : ¬ Wm (n_N 2) (hAh (hLt n_F) (hHv n_F) (n_N 3)) (n_N 2) (2 ^ n_N 2 - 1) = 0) : MI l yX7_orders wsX7_orders ({ frames := 3, cells := 0, slots := 0, locals := 68 }) D k [.ref h, .int what] [oq6 h h_now h_trial h_images h_imageThere h_teller h_ranks h_court h_sheets h_lf h_lt, oqT h_now n_a n_N n_J, oqF0 k n_a n_F, oqF1 k n_a n_F, oqF2 k n_a n_F, oqF3 k n_a n_F, oqF4 k n_a n_F, oqF5 k n_a n_F, oqF6 k n_a n_F, oq1 h_ranks q_ahead q_ways (nI q_z), oqI k q_ahead 5 (af), oqI k q_ways 32 (wf)] sz (fun (r : Int32) (u : (Nat → Int32) × (Nat → Int32)) => r = A_ordC n_N n_F what) (fun (u : (Nat → Int32) × (Nat → Int32)) => [oq6 h h_now h_trial h_images h_imageThere h_teller h_ranks h_court h_sheets h_lf h_lt, oqT h_now n_a n_N n_J, oqF0 k n_a n_F, oqF1 k n_a n_F, oqF2 k n_a n_F, oqF3 k n_a n_F, oqF4 k n_a n_F, oqF5 k n_a n_F, oqF6 k n_a n_F, oq1 h_ranks q_ahead q_ways (nI (n_N 2)), oqI k q_ahead 5 (u.1), oqI k q_ways 32 (u.2)]) := by
  refine Met.ofW (cc := cX7_orders) (maxL := 2) (ret := (some .int)) hpn_X7 rfl ?_
  intro p e s m args below meth c s₁ B hml hv
  obtain ⟨rfl, hsz, hP, hK, hD0, hN⟩ := hv
  have hx := B.exec
  have hb := B.bytes
  have hr := B.returns
  have hlocks := B.notSynchronized
  have hts := atoms_spec (ws := wsX7_orders) B.pre
  have hown := findClass_of_methodNamed B.named
  have hown : s.vm.findClass RX7 = some m.cls := hown
  have hiX6 : ∀ w ∈ u_ws RX6 TX6 15, w ∈ wsX7_orders := fun w9 hw9 => List.mem_cons_of_mem _ (igX6 w9 hw9)
  have hiX7 : ∀ w ∈ u_ws RX7 TX7 10, w ∈ wsX7_orders := fun w9 hw9 => List.mem_cons_of_mem _ (igX7 w9 hw9)
  have fl37 := hts (.fieldLink RX7 37 "HalfScales" "ranks" "LHalfScales$Ranks;") (List.mem_cons_of_mem _ (hs_inG 1 220 rfl rfl))
  have fl10 := hts (.fieldLink RX7 10 "HalfScales" "now" "LHalfScales$Thing;") (List.mem_cons_of_mem _ (hs_inG 1 215 rfl rfl))
  have fl108 := hts (.fieldLink RX7 108 "HalfScales$Thing" "halfCount" "I") (List.mem_cons_of_mem _ (hs_inG 1 71 rfl rfl))
  have hNn := hN0
  obtain ⟨I0, I1, ⟨I2, I2b⟩, I3, I4⟩ := hN0
  have hgo := R_go I2 I2b hPP hWW
  subst hsz
  have hD := hD0.self (sz := s.heap.size)
  generalize hAe : va_A [oq6 h h_now h_trial h_images h_imageThere h_teller h_ranks h_court h_sheets h_lf h_lt, oqT h_now n_a n_N n_J, oqF0 k n_a n_F, oqF1 k n_a n_F, oqF2 k n_a n_F, oqF3 k n_a n_F, oqF4 k n_a n_F, oqF5 k n_a n_F, oqF6 k n_a n_F, oq1 h_ranks q_ahead q_ways (nI q_z), oqI k q_ahead 5 (af), oqI k q_ways 32 (wf)] s.heap.size = A at hD ⊢
  have hA : ∀ q : Nat, s.heap.size ≤ q → A q := fun q h => by rw [← hAe]; exact Or.inr h
  have hS : va_S A s.heap s.heap [] := va_S.rf
  have hl := lv_entry ([.ref h, .int what]) (n := 2) (Nat.le_of_ble_eq_true rfl)
  rw [lg_entry_eq]
  generalize (lg_sl ([.ref h, .int what]) ++ List.replicate (2 - (lg_sl ([.ref h, .int what])).length) Slot.unset).toArray = ls at hl ⊢
  have hl : lv_has ls 2 [(0, .ref h), (1, .int what)] := hl
  have hP : va_P D vwCl [oq6 h h_now h_trial h_images h_imageThere h_teller h_ranks h_court h_sheets h_lf h_lt, oqT h_now n_a n_N n_J, oqF0 k n_a n_F, oqF1 k n_a n_F, oqF2 k n_a n_F, oqF3 k n_a n_F, oqF4 k n_a n_F, oqF5 k n_a n_F, oqF6 k n_a n_F, oq1 h_ranks q_ahead q_ways (nI q_z), oqI k q_ahead 5 (af), oqI k q_ways 32 (wf)] s.heap := hP
  refine lv_aload_n hx hb dX7_orders_0 rfl (lv_at hl 0 rfl) ?_
  refine va_get (D := D) (ci := 6) (v := .ref h_ranks) (C := RX7) (T := TX7) (N := 10) hx hb hts hiX7 hown hK hP 0 rfl rfl 5 (Nat.le_of_ble_eq_true rfl) fl37 (fun _ h9 => h9) rfl dX7_orders_1 ?_
  refine lv_aload_n hx hb dX7_orders_4 rfl (lv_at hl 0 rfl) ?_
  refine va_get (D := D) (ci := 6) (v := .ref h_now) (C := RX7) (T := TX7) (N := 10) hx hb hts hiX7 hown hK hP 0 rfl rfl 0 (Nat.le_of_ble_eq_true rfl) fl10 (fun _ h9 => h9) rfl dX7_orders_5 ?_
  refine hs_cvM (va_runV (As := [.ref h_now]) (rest := []) ⟨hx, hb, hml, hown, hts⟩ (gf_learn l D k _ h_ranks q_ahead q_ways q_z h_now n_a n_N n_J n_F af (hLt n_F) (hHv n_F) (by first | assumption | exact ⟨by first | omega | (dsimp; omega), by first | omega | (dsimp; omega), ⟨by first | omega | (dsimp; omega), by first | omega | (dsimp; omega)⟩, by first | omega | (dsimp; omega), by first | omega | (dsimp; omega)⟩) (thB_pr hB)) (cwV 1 hts gX7_orders_X2_learn rfl rfl rfl ⟨rfl, hq_X2_learn⟩ ⟨Nat.le_of_ble_eq_true rfl, Nat.le_of_ble_eq_true rfl⟩) (hs_preV hK hN (hs_subP (w := [_, _, _, _, _, _, _, _, _, _]) hP [9, 10, 1, 2, 3, 4, 5, 6, 7, 8] rfl) (hD.sub (ws' := [_, _, _, _, _, _, _, _, _, _]) [9, 10, 1, 2, 3, 4, 5, 6, 7, 8] (by decide +kernel) rfl) (ci := 1) (q0 := 0) rfl rfl) rfl rfl hl.1 rfl (lv_room (Nat.le_of_ble_eq_true rfl)) dX7_orders_8 ⟨Nat.le_of_ble_eq_true rfl, Nat.le_of_ble_eq_true rfl⟩) hP hD hS hA [true, false, false, false, false, false, false, false, false, false, false, true] [_, _] [_, _, _, _, _, _, _, _, _, _] rfl [8, 9, 0, 1, 2, 3, 4, 5, 6, 7] rfl [2, 3, 4, 5, 6, 7, 8, 9, 0, 1] (fun u_3 => [_, _, _, _, _, _, _, _, _, _]) (fun _ => rfl) (by decide +kernel) [true, false, false, false, false, false, false, false, false, false, false, true] (fun u_3 => [_, _, _, _, _, _, _, _, _, _, _, _]) (fun _ => rfl) (fun u_3 H locs hw_2 hP hD hS => ?_)
  have hw_2 : ∀ h, h < 5 → (u_3 h = nI (hAh (hLt n_F) (hHv n_F) (n_N 3) h) ∧ hAh (hLt n_F) (hHv n_F) (n_N 3) h < 32) := hw_2
  refine lv_iload_n hx hb dX7_orders_11 rfl (lv_at hl 1 rfl) ?_
  refine lv_if_ne (tgt := 23) hx hb dX7_orders_12 rfl (fun c_4 => ?_) (fun c_4 => ?_)
  · refine lv_iload_n hx hb dX7_orders_23 rfl (lv_at hl 1 rfl) ?_
    refine lv_iconst (v := 1) hx hb dX7_orders_24 hki_1 ?_
    refine lv_icmp_ne (tgt := 36) hx hb dX7_orders_25 rfl (fun c_5 => ?_) (fun c_5 => ?_)
    · refine lv_iload_n hx hb dX7_orders_36 rfl (lv_at hl 1 rfl) ?_
      refine lv_iconst (v := 2) hx hb dX7_orders_37 hki_2 ?_
      refine lv_icmp_ne (tgt := 49) hx hb dX7_orders_38 rfl (fun c_6 => ?_) (fun c_6 => ?_)
      · refine lv_iload_n hx hb dX7_orders_49 rfl (lv_at hl 1 rfl) ?_
        refine lv_bipush (v := 10) hx hb dX7_orders_50 hkb_10 ?_
        refine lv_bipush (v := 9) hx hb dX7_orders_52 hkb_9 ?_
        refine lv_aload_n hx hb dX7_orders_54 rfl (lv_at hl 0 rfl) ?_
        refine va_get (D := D) (ci := 6) (v := .ref h_now) (C := RX7) (T := TX7) (N := 10) hx hb hts hiX7 hown hK hP 0 rfl rfl 0 (Nat.le_of_ble_eq_true rfl) fl10 (fun _ h9 => h9) rfl dX7_orders_55 ?_
        refine va_get (D := D) (ci := 5) (v := .int (nI (n_N 2))) (C := RX6) (T := TX6) (N := 15) hx hb hts hiX6 hown hK hP 1 rfl rfl 12 (Nat.le_of_ble_eq_true rfl) fl108 (fun _ h9 => h9) rfl dX7_orders_58 ?_
        refine lv_iadd hx hb dX7_orders_61 ?_
        refine hs_topi (nI (9 + (n_N 2))) (nI_add (9) ((n_N 2))) ?_
        refine hs_pi (va_runS (As := [.int what, .int 10, .int (nI (9 + (n_N 2)))]) (rest := []) ⟨hx, hb, hml, hown, hts⟩ (g_within l D k _ what 10 (nI (9 + (n_N 2)))) (va_cwS 3 hts gX7_orders_X7_within rfl rfl rfl hq_X7_within ⟨Nat.le_of_ble_eq_true rfl, Nat.le_of_ble_eq_true rfl⟩) (hs_preS hK hN (hs_subP (w := []) hP [] rfl) (hD.sub (ws' := []) [] rfl rfl)) rfl rfl hl.1 rfl (lv_room (Nat.le_of_ble_eq_true rfl)) dX7_orders_62 ⟨Nat.le_of_ble_eq_true rfl, Nat.le_of_ble_eq_true rfl⟩) hP hD hS hA (fun r_7 u_9 H locs hw_8 hP hS => ?_)
        refine hs_topi (hsb (hsin what 10 (nI (9 + (n_N 2))))) hw_8 ?_
        refine lv_if_eq (tgt := 82) hx hb dX7_orders_65 rfl (fun c_10 => ?_) (fun c_10 => ?_)
        · refine lv_iconst (v := (-1)) hx hb dX7_orders_82 hki_m1 ?_
          exact hs_iret hx hb hr hlocks hK hP hD hS (u_3, wf) [0, 1, 2, 3, 4, 5, 6, 7, 8, 9, 10, 11] rfl (hs_upnd rfl) dX7_orders_83 ((by rw [A_ordC, A_orQ, if_neg c_4, if_neg c_5, if_neg c_6, if_neg (by rw [hs_n0 c_10]; decide)]))
        · obtain ⟨j_11, hj_11, hj_11b, rfl⟩ := hs_rng (lo := 10) (hi := (9 + (n_N 2))) (by omega) (by omega) (hs_nb c_10)
          refine lv_aload_n hx hb dX7_orders_68 rfl (lv_at hl 0 rfl) ?_
          refine va_get (D := D) (ci := 6) (v := .ref h_ranks) (C := RX7) (T := TX7) (N := 10) hx hb hts hiX7 hown hK hP 0 rfl rfl 5 (Nat.le_of_ble_eq_true rfl) fl37 (fun _ h9 => h9) rfl dX7_orders_69 ?_
          refine lv_iload_n hx hb dX7_orders_72 rfl (lv_at hl 1 rfl) ?_
          refine lv_bipush (v := 10) hx hb dX7_orders_73 hkb_10 ?_
          refine lv_isub hx hb dX7_orders_75 ?_
          refine hs_topi (nI (j_11 - 10)) (pk_sub (a := j_11) (b := 10) (by omega)) ?_
          refine hs_ciM (va_runV (As := [.int (nI (j_11 - 10))]) (rest := []) ⟨hx, hb, hml, hown, hts⟩ (gf_ofFirst l D k _ h_ranks q_ahead q_ways (n_N 2) (j_11 - 10) u_3 (hAh (hLt n_F) (hHv n_F) (n_N 3)) (by omega) (by omega) hw_2 hgo) (cwV 1 hts gX7_orders_X2_ofFirst rfl rfl rfl ⟨rfl, hq_X2_ofFirst⟩ ⟨Nat.le_of_ble_eq_true rfl, Nat.le_of_ble_eq_true rfl⟩) (hs_preV hK hN (hs_subP (w := [_, _]) hP [9, 10] rfl) (hD.sub (ws' := [_, _]) [9, 10] (hs_upnd rfl) rfl) (ci := 1) (q0 := 0) rfl rfl) rfl rfl hl.1 rfl (lv_room (Nat.le_of_ble_eq_true rfl)) dX7_orders_76 ⟨Nat.le_of_ble_eq_true rfl, Nat.le_of_ble_eq_true rfl⟩) hP hD hS hA [true, true, true, true, true, true, true, true, true, false, false, true] [_, _, _, _, _, _, _, _, _, _] [_, _] rfl [0, 1] rfl [0, 1] (fun u_14 => [_, _]) (fun _ => rfl) (hs_upnd rfl) [true, true, true, true, true, true, true, true, true, false, false, true] (fun u_14 => [_, _, _, _, _, _, _, _, _, _, _, _]) (fun _ => rfl) (fun r_12 u_14 H locs hw_13 hP hD hS => ?_)
          refine hs_topi (nI (grD (hAh (hLt n_F) (hHv n_F) (n_N 3)) (n_N 2) (j_11 - 10))) hw_13 ?_
          refine lv_goto (tgt := 83) hx hb dX7_orders_79 rfl ?_
          exact hs_iret hx hb hr hlocks hK hP hD hS (u_3, wf) [0, 1, 2, 3, 4, 5, 6, 7, 8, 9, 10, 11] rfl (hs_upnd rfl) dX7_orders_83 ((by rw [A_ordC, A_orQ, if_neg c_4, if_neg c_5, if_neg c_6, if_pos (hs_nb c_10), nI_clamp (by omega)]))
      · subst c_6
        refine lv_aload_n hx hb dX7_orders_41 rfl (lv_at hl 0 rfl) ?_
        refine va_get (D := D) (ci := 6) (v := .ref h_ranks) (C := RX7) (T := TX7) (N := 10) hx hb hts hiX7 hown hK hP 0 rfl rfl 5 (Nat.le_of_ble_eq_true rfl) fl37 (fun _ h9 => h9) rfl dX7_orders_42 ?_
        refine hs_ciM (va_runV (As := []) (rest := []) ⟨hx, hb, hml, hown, hts⟩ (gf_heaviest l D k _ h_ranks q_ahead q_ways (n_N 2) u_3 (hAh (hLt n_F) (hHv n_F) (n_N 3)) (by omega) hw_2) (cwV 0 hts gX7_orders_X2_heaviest rfl rfl rfl ⟨rfl, hq_X2_heaviest⟩ ⟨Nat.le_of_ble_eq_true rfl, Nat.le_of_ble_eq_true rfl⟩) (hs_preV hK hN (hs_subP (w := [_, _]) hP [9, 10] rfl) (hD.sub (ws' := [_, _]) [9, 10] (hs_upnd rfl) rfl) (ci := 1) (q0 := 0) rfl rfl) rfl rfl hl.1 rfl (lv_room (Nat.le_of_ble_eq_true rfl)) dX7_orders_45 ⟨Nat.le_of_ble_eq_true rfl, Nat.le_of_ble_eq_true rfl⟩) hP hD hS hA [true, true, true, true, true, true, true, true, true, false, false, true] [_, _, _, _, _, _, _, _, _, _] [_, _] rfl [0, 1] rfl [0, 1] (fun u_17 => [_, _]) (fun _ => rfl) (hs_upnd rfl) [true, true, true, true, true, true, true, true, true, false, false, true] (fun u_17 => [_, _, _, _, _, _, _, _, _, _, _, _]) (fun _ => rfl) (fun r_15 u_17 H locs hw_16 hP hD hS => ?_)
        refine hs_topi (A_hv (hAh (hLt n_F) (hHv n_F) (n_N 3)) (n_N 2) (n_N 2)) hw_16 ?_
        exact hs_iret hx hb hr hlocks hK hP hD hS (u_3, wf) [0, 1, 2, 3, 4, 5, 6, 7, 8, 9, 10, 11] rfl (hs_upnd rfl) dX7_orders_48 ((by rw [A_ordC, A_orQ, if_neg (by decide), if_neg (by decide), if_pos rfl]))
    · subst c_5
      refine lv_aload_n hx hb dX7_orders_28 rfl (lv_at hl 0 rfl) ?_
      refine va_get (D := D) (ci := 6) (v := .ref h_ranks) (C := RX7) (T := TX7) (N := 10) hx hb hts hiX7 hown hK hP 0 rfl rfl 5 (Nat.le_of_ble_eq_true rfl) fl37 (fun _ h9 => h9) rfl dX7_orders_29 ?_
      refine hs_ciM (va_runV (As := []) (rest := []) ⟨hx, hb, hml, hown, hts⟩ (gf_lightest l D k _ h_ranks q_ahead q_ways (n_N 2) u_3 (hAh (hLt n_F) (hHv n_F) (n_N 3)) (by omega) hw_2) (cwV 0 hts gX7_orders_X2_lightest rfl rfl rfl ⟨rfl, hq_X2_lightest⟩ ⟨Nat.le_of_ble_eq_true rfl, Nat.le_of_ble_eq_true rfl⟩) (hs_preV hK hN (hs_subP (w := [_, _]) hP [9, 10] rfl) (hD.sub (ws' := [_, _]) [9, 10] (hs_upnd rfl) rfl) (ci := 1) (q0 := 0) rfl rfl) rfl rfl hl.1 rfl (lv_room (Nat.le_of_ble_eq_true rfl)) dX7_orders_32 ⟨Nat.le_of_ble_eq_true rfl, Nat.le_of_ble_eq_true rfl⟩) hP hD hS hA [true, true, true, true, true, true, true, true, true, false, false, true] [_, _, _, _, _, _, _, _, _, _] [_, _] rfl [0, 1] rfl [0, 1] (fun u_20 => [_, _]) (fun _ => rfl) (hs_upnd rfl) [true, true, true, true, true, true, true, true, true, false, false, true] (fun u_20 => [_, _, _, _, _, _, _, _, _, _, _, _]) (fun _ => rfl) (fun r_18 u_20 H locs hw_19 hP hD hS => ?_)
      refine hs_topi ((A_btP (fun h9 => decide ((hAh (hLt n_F) (hHv n_F) (n_N 3)) h9 = 0))) (n_N 2)) hw_19 ?_
      exact hs_iret hx hb hr hlocks hK hP hD hS (u_3, wf) [0, 1, 2, 3, 4, 5, 6, 7, 8, 9, 10, 11] rfl (hs_upnd rfl) dX7_orders_35 ((by rw [A_ordC, A_orQ, if_neg (by decide), if_pos rfl]))
  · subst c_4
    refine lv_aload_n hx hb dX7_orders_15 rfl (lv_at hl 0 rfl) ?_
    refine va_get (D := D) (ci := 6) (v := .ref h_ranks) (C := RX7) (T := TX7) (N := 10) hx hb hts hiX7 hown hK hP 0 rfl rfl 5 (Nat.le_of_ble_eq_true rfl) fl37 (fun _ h9 => h9) rfl dX7_orders_16 ?_
    refine hs_ciM (va_runV (As := []) (rest := []) ⟨hx, hb, hml, hown, hts⟩ (gf_howMany l D k _ h_ranks q_ahead q_ways (n_N 2) u_3 wf (hAh (hLt n_F) (hHv n_F) (n_N 3)) (by omega) hw_2) (cwV 0 hts gX7_orders_X2_howMany rfl rfl rfl ⟨rfl, hq_X2_howMany⟩ ⟨Nat.le_of_ble_eq_true rfl, Nat.le_of_ble_eq_true rfl⟩) (hs_preV hK hN (hs_subP (w := [_, _, _]) hP [9, 10, 11] rfl) (hD.sub (ws' := [_, _, _]) [9, 10, 11] (hs_upnd rfl) rfl) (ci := 1) (q0 := 0) rfl rfl) rfl rfl hl.1 rfl (lv_room (Nat.le_of_ble_eq_true rfl)) dX7_orders_19 ⟨Nat.le_of_ble_eq_true rfl, Nat.le_of_ble_eq_true rfl⟩) hP hD hS hA [true, true, true, true, true, true, true, true, true, false, false, false] [_, _, _, _, _, _, _, _, _] [_, _, _] rfl [0, 1, 2] rfl [0, 1, 2] (fun u_23 => [_, _, _]) (fun _ => rfl) (hs_upnd rfl) [true, true, true, true, true, true, true, true, true, false, false, false] (fun u_23 => [_, _, _, _, _, _, _, _, _, _, _, _]) (fun _ => rfl) (fun r_21 u_23 H locs hw_22 hP hD hS => ?_)
    refine hs_topi (nI (Wm (n_N 2) (hAh (hLt n_F) (hHv n_F) (n_N 3)) (n_N 2) (2 ^ (n_N 2) - 1))) hw_22 ?_
    exact hs_iret hx hb hr hlocks hK hP hD hS (u_3, u_23) [0, 1, 2, 3, 4, 5, 6, 7, 8, 9, 10, 11] rfl (hs_upnd rfl) dX7_orders_22 ((by rw [A_ordC, A_orQ, if_pos rfl]))

set_option maxHeartbeats 4000000 in
set_option maxRecDepth 100000 in
theorem gqf_orders (l : Launch) (D : va_G) (k : Nat → ClassId) (sz : Nat) (mo : Nat) (mo_st : Nat) (mo_at : Nat) (mo_isKept : Nat) (mo_pe : Nat) (mo_hm : Nat) (mo_draft : Nat) (mo_dp : Nat) (mo_dh : Nat) (mo_toldLines : Int32) (mo_highest : Int32) (mo_tape : Nat) (mo_tl : Nat) (mo_ps : Nat) (mo_fr : Nat) (mo_sort : Int32) (mo_value : Int32) (mo_ft : Nat) (mo_wrongAt : Int32) (mo_row : Nat) (mo_orderMany : Int32) (mo_fo : Nat) (mo_lightest : Int32) (mo_heaviest : Int32) (mo_before : Nat) (mo_justSum : Int64) (mo_toldSum : Int64) (mo_allWays : Int64) (mo_lanes : Nat) (mo_sizes : Nat) (mo_cells : Nat) (mo_torn : Int32) (mo_had : Nat) (sf : Nat → Int32) (c0 : Nat) (c3 : Nat) (c4 : Nat) (fi : Nat) (af : Nat → Int32) (rf : Nat → Int32) (bf : Nat → Int32) (lt : Nat → Nat) (hv : Nat → Nat) (what : Int32) (e0 : sf 0 = nI c0) (h0 : c0 ≤ 8) (h02 : 2 ≤ c0) (e3 : sf 16 = nI c3) (h3 : c3 ≤ 8) (e4 : sf 25 = nI c4) (h4 : c4 ≤ 6) (hpe : mo_pe ≤ 4) (hm2 : 2 ≤ mo_hm) (hm5 : mo_hm ≤ 5) (ef : sf 14 = nI fi) (hfi : fi ≤ 99) (hsaw : ∀ i, i < c4 → vp_in (sf (26 + 3 * i)) 4) (hpr : ∀ k, k < c3 → (sf (17 + k) = nI (10 * lt k + hv k) ∧ lt k < mo_hm ∧ hv k < mo_hm)) : MI l yX8_orders wsX8_orders ({ frames := 3, cells := 0, slots := 0, locals := 71 }) D k [.ref mo, .int what] [oq7 mo mo_st mo_at mo_isKept (nI mo_pe) (nI mo_hm) mo_draft (nI mo_dp) (nI mo_dh) mo_toldLines mo_highest mo_tape (nI mo_tl) (nI mo_ps) (nI mo_fr) mo_sort mo_value (nI mo_ft) mo_wrongAt mo_row mo_orderMany (nI mo_fo) mo_lightest mo_heaviest mo_before mo_justSum mo_toldSum mo_allWays mo_lanes mo_sizes mo_cells mo_torn mo_had, oqI k mo_st 132 (sf), oqI k mo_at 44 (af), oqI k mo_row 5 (rf), oqI k mo_before 25 (bf)] sz (fun (r : Int32) (u : (Nat → Int32) × (Int32 × Nat × Int32 × Int32) × (Nat → Int32) × (Nat → Int32)) => r = A_ordM mo_hm c3 lt hv what) (fun (u : (Nat → Int32) × (Int32 × Nat × Int32 × Int32) × (Nat → Int32) × (Nat → Int32)) => [oq7 mo mo_st mo_at mo_isKept (nI mo_pe) (nI mo_hm) mo_draft (nI mo_dp) (nI mo_dh) mo_toldLines mo_highest mo_tape (nI mo_tl) (nI mo_ps) (nI mo_fr) mo_sort mo_value (nI mo_ft) mo_wrongAt mo_row u.2.1.1 (nI (u.2.1.2.1)) u.2.1.2.2.1 u.2.1.2.2.2 mo_before mo_justSum mo_toldSum mo_allWays mo_lanes mo_sizes mo_cells mo_torn mo_had, oqI k mo_st 132 (sf), oqI k mo_at 44 (u.1), oqI k mo_row 5 (u.2.2.1), oqI k mo_before 25 (u.2.2.2)]) := by
  refine Met.ofW (cc := cX8_orders) (maxL := 2) (ret := (some .int)) hpn_X8 rfl ?_
  intro p e s m args below meth c s₁ B hml hv
  obtain ⟨rfl, hsz, hP, hK, hD0, hN⟩ := hv
  have hx := B.exec
  have hb := B.bytes
  have hr := B.returns
  have hlocks := B.notSynchronized
  have hts := atoms_spec (ws := wsX8_orders) B.pre
  have hown := findClass_of_methodNamed B.named
  have hown : s.vm.findClass RX8 = some m.cls := hown
  have hiX8 : ∀ w ∈ u_ws RX8 TX8 32, w ∈ wsX8_orders := fun w9 hw9 => List.mem_cons_of_mem _ (igX8 w9 hw9)
  have fl66 := hts (.fieldLink RX8 66 "HalfScalesModel" "halfMany" "I") (List.mem_cons_of_mem _ (hs_inG 4 84 rfl rfl))
  have fl204 := hts (.fieldLink RX8 204 "HalfScalesModel" "firstOrder" "I") (List.mem_cons_of_mem _ (hs_inG 4 100 rfl rfl))
  have fl149 := hts (.fieldLink RX8 149 "HalfScalesModel" "orderMany" "I") (List.mem_cons_of_mem _ (hs_inG 4 99 rfl rfl))
  have fl207 := hts (.fieldLink RX8 207 "HalfScalesModel" "lightest" "I") (List.mem_cons_of_mem _ (hs_inG 4 101 rfl rfl))
  have fl210 := hts (.fieldLink RX8 210 "HalfScalesModel" "heaviest" "I") (List.mem_cons_of_mem _ (hs_inG 4 102 rfl rfl))
  have fl26 := hts (.fieldLink RX8 26 "HalfScalesModel" "row" "[I") (List.mem_cons_of_mem _ (hs_inG 4 98 rfl rfl))
  have kl197 := hts (.constantLong RX8 197 (2)) (List.mem_cons_of_mem _ (hs_inG 5 86 rfl rfl))
  subst hsz
  have hD := hD0.self (sz := s.heap.size)
  generalize hAe : va_A [oq7 mo mo_st mo_at mo_isKept (nI mo_pe) (nI mo_hm) mo_draft (nI mo_dp) (nI mo_dh) mo_toldLines mo_highest mo_tape (nI mo_tl) (nI mo_ps) (nI mo_fr) mo_sort mo_value (nI mo_ft) mo_wrongAt mo_row mo_orderMany (nI mo_fo) mo_lightest mo_heaviest mo_before mo_justSum mo_toldSum mo_allWays mo_lanes mo_sizes mo_cells mo_torn mo_had, oqI k mo_st 132 (sf), oqI k mo_at 44 (af), oqI k mo_row 5 (rf), oqI k mo_before 25 (bf)] s.heap.size = A at hD ⊢
  have hA : ∀ q : Nat, s.heap.size ≤ q → A q := fun q h => by rw [← hAe]; exact Or.inr h
  have hS : va_S A s.heap s.heap [] := va_S.rf
  have hl := lv_entry ([.ref mo, .int what]) (n := 2) (Nat.le_of_ble_eq_true rfl)
  rw [lg_entry_eq]
  generalize (lg_sl ([.ref mo, .int what]) ++ List.replicate (2 - (lg_sl ([.ref mo, .int what])).length) Slot.unset).toArray = ls at hl ⊢
  have hl : lv_has ls 2 [(0, .ref mo), (1, .int what)] := hl
  have hP : va_P D vwCl [oq7 mo mo_st mo_at mo_isKept (nI mo_pe) (nI mo_hm) mo_draft (nI mo_dp) (nI mo_dh) mo_toldLines mo_highest mo_tape (nI mo_tl) (nI mo_ps) (nI mo_fr) mo_sort mo_value (nI mo_ft) mo_wrongAt mo_row mo_orderMany (nI mo_fo) mo_lightest mo_heaviest mo_before mo_justSum mo_toldSum mo_allWays mo_lanes mo_sizes mo_cells mo_torn mo_had, oqI k mo_st 132 (sf), oqI k mo_at 44 (af), oqI k mo_row 5 (rf), oqI k mo_before 25 (bf)] s.heap := hP
  refine lv_iload_n hx hb dX8_orders_0 rfl (lv_at hl 1 rfl) ?_
  refine lv_i2l hx hb dX8_orders_1 rfl ?_
  refine lv_lconst (v := 0) hx hb dX8_orders_2 (by decide) ?_
  refine lv_ldc2 hx hb hown kl197 dX8_orders_3 ?_
  refine hs_pi (va_runS (As := [.long (((what) : Int32).toInt64), .long 0, .long 2]) (rest := []) ⟨hx, hb, hml, hown, hts⟩ (gm_in l D k _ what 0 2) (va_cwS 3 hts gX8_orders_X8_in rfl rfl rfl hq_X8_in ⟨Nat.le_of_ble_eq_true rfl, Nat.le_of_ble_eq_true rfl⟩) (hs_preS hK hN (hs_subP (w := []) hP [] rfl) (hD.sub (ws' := []) [] rfl rfl)) rfl rfl hl.1 rfl (lv_room (Nat.le_of_ble_eq_true rfl)) dX8_orders_6 ⟨Nat.le_of_ble_eq_true rfl, Nat.le_of_ble_eq_true rfl⟩) hP hD hS hA (fun r_1 u_3 H locs hw_2 hP hS => ?_)
  refine hs_topi (hsb (hsin what 0 2)) hw_2 ?_
  refine lv_if_ne (tgt := 33) hx hb dX8_orders_9 rfl (fun c_4 => ?_) (fun c_4 => ?_)
  · rcases hs_v012 (hs_nb c_4) with rfl | rfl | rfl
    · refine lv_aload_n hx hb dX8_orders_33 rfl (lv_at hl 0 rfl) ?_
      refine hs_cvM (va_runV (As := []) (rest := []) ⟨hx, hb, hml, hown, hts⟩ (gm_starts l D k _ mo mo_st mo_at mo_isKept mo_pe mo_hm mo_draft mo_dp mo_dh mo_toldLines mo_highest mo_tape mo_tl mo_ps mo_fr mo_sort mo_value mo_ft mo_wrongAt mo_row mo_orderMany mo_fo mo_lightest mo_heaviest mo_before mo_justSum mo_toldSum mo_allWays mo_lanes mo_sizes mo_cells mo_torn mo_had sf af) (cwV 0 hts gX8_orders_X8_starts rfl rfl rfl ⟨rfl, hq_X8_starts⟩ ⟨Nat.le_of_ble_eq_true rfl, Nat.le_of_ble_eq_true rfl⟩) (hs_preV hK hN (hs_subP (w := [_, _, _]) hP [0, 1, 2] rfl) (hD.sub (ws' := [_, _, _]) [0, 1, 2] (hs_upnd rfl) rfl) (ci := 7) (q0 := 0) rfl rfl) rfl rfl hl.1 rfl (lv_room (Nat.le_of_ble_eq_true rfl)) dX8_orders_34 ⟨Nat.le_of_ble_eq_true rfl, Nat.le_of_ble_eq_true rfl⟩) hP hD hS hA [false, false, false, true, true] [_, _] [_, _, _] rfl [0, 1, 2] rfl [0, 1, 2] (fun u_7 => [_, _, _]) (fun _ => rfl) (hs_upnd rfl) [false, false, false, true, true] (fun u_7 => [_, _, _, _, _]) (fun _ => rfl) (fun u_7 H locs hw_6 hP hD hS => ?_)
      have hw_6 : ∀ j, j < 44 → u_7 j = sf j := hw_6
      have e0a : u_7 0 = nI c0 := (hw_6 0 (by decide)).trans e0
      have e3a : u_7 16 = nI c3 := (hw_6 16 (by decide)).trans e3
      have e4a : u_7 25 = nI c4 := (hw_6 25 (by decide)).trans e4
      have hw_6 : ∀ j, j < 44 → u_7 j = sf j := hw_6
      refine lv_aload_n hx hb dX8_orders_37 rfl (lv_at hl 0 rfl) ?_
      refine lv_aload_n hx hb dX8_orders_38 rfl (lv_at hl 0 rfl) ?_
      refine va_get (D := D) (ci := 7) (v := .int (nI mo_hm)) (C := RX8) (T := TX8) (N := 32) hx hb hts hiX8 hown hK hP 0 rfl rfl 4 (Nat.le_of_ble_eq_true rfl) fl66 (fun _ h9 => h9) rfl dX8_orders_39 ?_
      refine hs_cvM (va_runV (As := [.int (nI mo_hm)]) (rest := []) ⟨hx, hb, hml, hown, hts⟩ (gr_findOrders l D k _ mo mo_st mo_at mo_isKept mo_pe mo_hm mo_draft mo_dp mo_dh mo_toldLines mo_highest mo_tape mo_tl mo_ps mo_fr mo_sort mo_value mo_ft mo_wrongAt mo_row mo_orderMany mo_fo mo_lightest mo_heaviest mo_before mo_justSum mo_toldSum mo_allWays mo_lanes mo_sizes mo_cells mo_torn mo_had u_7 rf bf mo_hm lt hv c3 hm2 hm5 e3a h3 (fun k hk => ⟨(hw_6 (17 + k) (by omega)).trans (hpr k hk).1, by have h9 := (hpr k hk).2; omega, by have h9 := (hpr k hk).2; omega⟩)) (cwV 1 hts gX8_orders_X8_findOrders rfl rfl rfl ⟨rfl, hq_X8_findOrders⟩ ⟨Nat.le_of_ble_eq_true rfl, Nat.le_of_ble_eq_true rfl⟩) (hs_preV hK hN (hs_subP (w := [_, _, _, _]) hP [0, 2, 3, 4] rfl) (hD.sub (ws' := [_, _, _, _]) [0, 2, 3, 4] (hs_upnd rfl) rfl) (ci := 7) (q0 := 0) rfl rfl) rfl rfl hl.1 rfl (lv_room (Nat.le_of_ble_eq_true rfl)) dX8_orders_42 ⟨Nat.le_of_ble_eq_true rfl, Nat.le_of_ble_eq_true rfl⟩) hP hD hS hA [false, true, false, false, false] [_] [_, _, _, _] rfl [0, 1, 2, 3] rfl [0, 1, 2, 3] (fun u_10 => [_, _, _, _]) (fun _ => rfl) (hs_upnd rfl) [false, true, false, false, false] (fun u_10 => [_, _, _, _, _]) (fun _ => rfl) (fun u_10 H locs hw_9 hP hD hS => ?_)
      have hw_9 : foI mo_hm lt hv c3 (mo_hm ^ mo_hm) u_10.1.1 u_10.1.2.1 u_10.1.2.2.1 u_10.1.2.2.2 u_10.2.2 ∧ u_10.1.1 ≤ 3125 ∧ u_10.1.2.1 ≤ 3125 ∧ u_10.1.2.2.1 < 32 ∧ u_10.1.2.2.2 < 32 := hw_9
      have hb9 := hw_9.2.2.1
      refine lv_aload_n hx hb dX8_orders_45 rfl (lv_at hl 0 rfl) ?_
      refine lv_aload_n hx hb dX8_orders_46 rfl (lv_at hl 0 rfl) ?_
      refine va_get (D := D) (ci := 7) (v := .int (nI (u_10.1.2.1))) (C := RX8) (T := TX8) (N := 32) hx hb hts hiX8 hown hK hP 0 rfl rfl 20 (Nat.le_of_ble_eq_true rfl) fl204 (fun _ h9 => h9) rfl dX8_orders_47 ?_
      refine lv_aload_n hx hb dX8_orders_50 rfl (lv_at hl 0 rfl) ?_
      refine va_get (D := D) (ci := 7) (v := .int (nI mo_hm)) (C := RX8) (T := TX8) (N := 32) hx hb hts hiX8 hown hK hP 0 rfl rfl 4 (Nat.le_of_ble_eq_true rfl) fl66 (fun _ h9 => h9) rfl dX8_orders_51 ?_
      refine hs_ciM (va_runV (As := [.int (nI (u_10.1.2.1)), .int (nI mo_hm)]) (rest := []) ⟨hx, hb, hml, hown, hts⟩ (gr_isOrder l D k _ mo mo_st mo_at mo_isKept mo_pe mo_hm mo_draft mo_dp mo_dh mo_toldLines mo_highest mo_tape mo_tl mo_ps mo_fr mo_sort mo_value mo_ft mo_wrongAt mo_row (nI (u_10.1.1)) u_10.1.2.1 (nI (u_10.1.2.2.1)) (nI (u_10.1.2.2.2)) mo_before mo_justSum mo_toldSum mo_allWays mo_lanes mo_sizes mo_cells mo_torn mo_had u_10.2.1 u_10.1.2.1 mo_hm (by omega) (by omega) (by omega)) (cwV 2 hts gX8_orders_X8_isOrder rfl rfl rfl ⟨rfl, hq_X8_isOrder⟩ ⟨Nat.le_of_ble_eq_true rfl, Nat.le_of_ble_eq_true rfl⟩) (hs_preV hK hN (hs_subP (w := [_, _]) hP [0, 3] rfl) (hD.sub (ws' := [_, _]) [0, 3] (hs_upnd rfl) rfl) (ci := 7) (q0 := 0) rfl rfl) rfl rfl hl.1 rfl (lv_room (Nat.le_of_ble_eq_true rfl)) dX8_orders_54 ⟨Nat.le_of_ble_eq_true rfl, Nat.le_of_ble_eq_true rfl⟩) hP hD hS hA [false, true, true, false, true] [_, _, _] [_, _] rfl [0, 1] rfl [0, 1] (fun u_13 => [_, _]) (fun _ => rfl) (hs_upnd rfl) [false, true, true, false, true] (fun u_13 => [_, _, _, _, _]) (fun _ => rfl) (fun r_11 u_13 H locs hw_12 hP hD hS => ?_)
      have hw_12 : r_11 = hsb (decide (hs2 mo_hm u_10.1.2.1 mo_hm = 2 ^ mo_hm - 1)) ∧ ∀ j, j < mo_hm → (u_13 j = nI (hdg mo_hm u_10.1.2.1 j) ∧ hdg mo_hm u_10.1.2.1 j < mo_hm) := hw_12
      refine hs_topi (hsb (decide (hs2 mo_hm u_10.1.2.1 mo_hm = 2 ^ mo_hm - 1))) hw_12.1 ?_
      refine lv_pop hx hb dX8_orders_57 rfl ?_
      refine lv_iload_n hx hb dX8_orders_58 rfl (lv_at hl 1 rfl) ?_
      refine lv_if_ne (tgt := 69) hx hb dX8_orders_59 rfl (fun c_14 => absurd c_14 (by decide)) (fun c_14 => ?_)
      refine lv_aload_n hx hb dX8_orders_62 rfl (lv_at hl 0 rfl) ?_
      refine va_get (D := D) (ci := 7) (v := .int (nI (u_10.1.1))) (C := RX8) (T := TX8) (N := 32) hx hb hts hiX8 hown hK hP 0 rfl rfl 19 (Nat.le_of_ble_eq_true rfl) fl149 (fun _ h9 => h9) rfl dX8_orders_63 ?_
      refine lv_goto (tgt := 102) hx hb dX8_orders_66 rfl ?_
      exact hs_iret hx hb hr hlocks hK hP hD hS (u_7, ((nI (u_10.1.1), u_10.1.2.1, nI (u_10.1.2.2.1), nI (u_10.1.2.2.2)), u_13, u_10.2.2)) [0, 1, 2, 3, 4] rfl (hs_upnd rfl) dX8_orders_102 ((by rw [A_ordM, A_orQ, if_pos rfl, ← hw_9.1.1]))
    · refine lv_aload_n hx hb dX8_orders_33 rfl (lv_at hl 0 rfl) ?_
      refine hs_cvM (va_runV (As := []) (rest := []) ⟨hx, hb, hml, hown, hts⟩ (gm_starts l D k _ mo mo_st mo_at mo_isKept mo_pe mo_hm mo_draft mo_dp mo_dh mo_toldLines mo_highest mo_tape mo_tl mo_ps mo_fr mo_sort mo_value mo_ft mo_wrongAt mo_row mo_orderMany mo_fo mo_lightest mo_heaviest mo_before mo_justSum mo_toldSum mo_allWays mo_lanes mo_sizes mo_cells mo_torn mo_had sf af) (cwV 0 hts gX8_orders_X8_starts rfl rfl rfl ⟨rfl, hq_X8_starts⟩ ⟨Nat.le_of_ble_eq_true rfl, Nat.le_of_ble_eq_true rfl⟩) (hs_preV hK hN (hs_subP (w := [_, _, _]) hP [0, 1, 2] rfl) (hD.sub (ws' := [_, _, _]) [0, 1, 2] (hs_upnd rfl) rfl) (ci := 7) (q0 := 0) rfl rfl) rfl rfl hl.1 rfl (lv_room (Nat.le_of_ble_eq_true rfl)) dX8_orders_34 ⟨Nat.le_of_ble_eq_true rfl, Nat.le_of_ble_eq_true rfl⟩) hP hD hS hA [false, false, false, true, true] [_, _] [_, _, _] rfl [0, 1, 2] rfl [0, 1, 2] (fun u_17 => [_, _, _]) (fun _ => rfl) (hs_upnd rfl) [false, false, false, true, true] (fun u_17 => [_, _, _, _, _]) (fun _ => rfl) (fun u_17 H locs hw_16 hP hD hS => ?_)
      have hw_16 : ∀ j, j < 44 → u_17 j = sf j := hw_16
      have e0a : u_17 0 = nI c0 := (hw_16 0 (by decide)).trans e0
      have e3a : u_17 16 = nI c3 := (hw_16 16 (by decide)).trans e3
      have e4a : u_17 25 = nI c4 := (hw_16 25 (by decide)).trans e4
      have hw_16 : ∀ j, j < 44 → u_17 j = sf j := hw_16
      refine lv_aload_n hx hb dX8_orders_37 rfl (lv_at hl 0 rfl) ?_
      refine lv_aload_n hx hb dX8_orders_38 rfl (lv_at hl 0 rfl) ?_
      refine va_get (D := D) (ci := 7) (v := .int (nI mo_hm)) (C := RX8) (T := TX8) (N := 32) hx hb hts hiX8 hown hK hP 0 rfl rfl 4 (Nat.le_of_ble_eq_true rfl) fl66 (fun _ h9 => h9) rfl dX8_orders_39 ?_
      refine hs_cvM (va_runV (As := [.int (nI mo_hm)]) (rest := []) ⟨hx, hb, hml, hown, hts⟩ (gr_findOrders l D k _ mo mo_st mo_at mo_isKept mo_pe mo_hm mo_draft mo_dp mo_dh mo_toldLines mo_highest mo_tape mo_tl mo_ps mo_fr mo_sort mo_value mo_ft mo_wrongAt mo_row mo_orderMany mo_fo mo_lightest mo_heaviest mo_before mo_justSum mo_toldSum mo_allWays mo_lanes mo_sizes mo_cells mo_torn mo_had u_17 rf bf mo_hm lt hv c3 hm2 hm5 e3a h3 (fun k hk => ⟨(hw_16 (17 + k) (by omega)).trans (hpr k hk).1, by have h9 := (hpr k hk).2; omega, by have h9 := (hpr k hk).2; omega⟩)) (cwV 1 hts gX8_orders_X8_findOrders rfl rfl rfl ⟨rfl, hq_X8_findOrders⟩ ⟨Nat.le_of_ble_eq_true rfl, Nat.le_of_ble_eq_true rfl⟩) (hs_preV hK hN (hs_subP (w := [_, _, _, _]) hP [0, 2, 3, 4] rfl) (hD.sub (ws' := [_, _, _, _]) [0, 2, 3, 4] (hs_upnd rfl) rfl) (ci := 7) (q0 := 0) rfl rfl) rfl rfl hl.1 rfl (lv_room (Nat.le_of_ble_eq_true rfl)) dX8_orders_42 ⟨Nat.le_of_ble_eq_true rfl, Nat.le_of_ble_eq_true rfl⟩) hP hD hS hA [false, true, false, false, false] [_] [_, _, _, _] rfl [0, 1, 2, 3] rfl [0, 1, 2, 3] (fun u_20 => [_, _, _, _]) (fun _ => rfl) (hs_upnd rfl) [false, true, false, false, false] (fun u_20 => [_, _, _, _, _]) (fun _ => rfl) (fun u_20 H locs hw_19 hP hD hS => ?_)
      have hw_19 : foI mo_hm lt hv c3 (mo_hm ^ mo_hm) u_20.1.1 u_20.1.2.1 u_20.1.2.2.1 u_20.1.2.2.2 u_20.2.2 ∧ u_20.1.1 ≤ 3125 ∧ u_20.1.2.1 ≤ 3125 ∧ u_20.1.2.2.1 < 32 ∧ u_20.1.2.2.2 < 32 := hw_19
      have hb9 := hw_19.2.2.1
      refine lv_aload_n hx hb dX8_orders_45 rfl (lv_at hl 0 rfl) ?_
      refine lv_aload_n hx hb dX8_orders_46 rfl (lv_at hl 0 rfl) ?_
      refine va_get (D := D) (ci := 7) (v := .int (nI (u_20.1.2.1))) (C := RX8) (T := TX8) (N := 32) hx hb hts hiX8 hown hK hP 0 rfl rfl 20 (Nat.le_of_ble_eq_true rfl) fl204 (fun _ h9 => h9) rfl dX8_orders_47 ?_
      refine lv_aload_n hx hb dX8_orders_50 rfl (lv_at hl 0 rfl) ?_
      refine va_get (D := D) (ci := 7) (v := .int (nI mo_hm)) (C := RX8) (T := TX8) (N := 32) hx hb hts hiX8 hown hK hP 0 rfl rfl 4 (Nat.le_of_ble_eq_true rfl) fl66 (fun _ h9 => h9) rfl dX8_orders_51 ?_
      refine hs_ciM (va_runV (As := [.int (nI (u_20.1.2.1)), .int (nI mo_hm)]) (rest := []) ⟨hx, hb, hml, hown, hts⟩ (gr_isOrder l D k _ mo mo_st mo_at mo_isKept mo_pe mo_hm mo_draft mo_dp mo_dh mo_toldLines mo_highest mo_tape mo_tl mo_ps mo_fr mo_sort mo_value mo_ft mo_wrongAt mo_row (nI (u_20.1.1)) u_20.1.2.1 (nI (u_20.1.2.2.1)) (nI (u_20.1.2.2.2)) mo_before mo_justSum mo_toldSum mo_allWays mo_lanes mo_sizes mo_cells mo_torn mo_had u_20.2.1 u_20.1.2.1 mo_hm (by omega) (by omega) (by omega)) (cwV 2 hts gX8_orders_X8_isOrder rfl rfl rfl ⟨rfl, hq_X8_isOrder⟩ ⟨Nat.le_of_ble_eq_true rfl, Nat.le_of_ble_eq_true rfl⟩) (hs_preV hK hN (hs_subP (w := [_, _]) hP [0, 3] rfl) (hD.sub (ws' := [_, _]) [0, 3] (hs_upnd rfl) rfl) (ci := 7) (q0 := 0) rfl rfl) rfl rfl hl.1 rfl (lv_room (Nat.le_of_ble_eq_true rfl)) dX8_orders_54 ⟨Nat.le_of_ble_eq_true rfl, Nat.le_of_ble_eq_true rfl⟩) hP hD hS hA [false, true, true, false, true] [_, _, _] [_, _] rfl [0, 1] rfl [0, 1] (fun u_23 => [_, _]) (fun _ => rfl) (hs_upnd rfl) [false, true, true, false, true] (fun u_23 => [_, _, _, _, _]) (fun _ => rfl) (fun r_21 u_23 H locs hw_22 hP hD hS => ?_)
      have hw_22 : r_21 = hsb (decide (hs2 mo_hm u_20.1.2.1 mo_hm = 2 ^ mo_hm - 1)) ∧ ∀ j, j < mo_hm → (u_23 j = nI (hdg mo_hm u_20.1.2.1 j) ∧ hdg mo_hm u_20.1.2.1 j < mo_hm) := hw_22
      refine hs_topi (hsb (decide (hs2 mo_hm u_20.1.2.1 mo_hm = 2 ^ mo_hm - 1))) hw_22.1 ?_
      refine lv_pop hx hb dX8_orders_57 rfl ?_
      refine lv_iload_n hx hb dX8_orders_58 rfl (lv_at hl 1 rfl) ?_
      refine lv_if_ne (tgt := 69) hx hb dX8_orders_59 rfl (fun c_24 => ?_) (fun c_24 => absurd c_24 (by decide))
      refine lv_iload_n hx hb dX8_orders_69 rfl (lv_at hl 1 rfl) ?_
      refine lv_iconst (v := 1) hx hb dX8_orders_70 hki_1 ?_
      refine lv_icmp_ne (tgt := 81) hx hb dX8_orders_71 rfl (fun c_25 => absurd c_25 (by decide)) (fun c_25 => ?_)
      refine lv_aload_n hx hb dX8_orders_74 rfl (lv_at hl 0 rfl) ?_
      refine va_get (D := D) (ci := 7) (v := .int (nI (u_20.1.2.2.1))) (C := RX8) (T := TX8) (N := 32) hx hb hts hiX8 hown hK hP 0 rfl rfl 21 (Nat.le_of_ble_eq_true rfl) fl207 (fun _ h9 => h9) rfl dX8_orders_75 ?_
      refine lv_goto (tgt := 102) hx hb dX8_orders_78 rfl ?_
      exact hs_iret hx hb hr hlocks hK hP hD hS (u_17, ((nI (u_20.1.1), u_20.1.2.1, nI (u_20.1.2.2.1), nI (u_20.1.2.2.2)), u_23, u_20.2.2)) [0, 1, 2, 3, 4] rfl (hs_upnd rfl) dX8_orders_102 ((by rw [A_ordM, A_orQ, if_neg (by decide), if_pos rfl, ← hw_19.1.2.2.1]))
    · refine lv_aload_n hx hb dX8_orders_33 rfl (lv_at hl 0 rfl) ?_
      refine hs_cvM (va_runV (As := []) (rest := []) ⟨hx, hb, hml, hown, hts⟩ (gm_starts l D k _ mo mo_st mo_at mo_isKept mo_pe mo_hm mo_draft mo_dp mo_dh mo_toldLines mo_highest mo_tape mo_tl mo_ps mo_fr mo_sort mo_value mo_ft mo_wrongAt mo_row mo_orderMany mo_fo mo_lightest mo_heaviest mo_before mo_justSum mo_toldSum mo_allWays mo_lanes mo_sizes mo_cells mo_torn mo_had sf af) (cwV 0 hts gX8_orders_X8_starts rfl rfl rfl ⟨rfl, hq_X8_starts⟩ ⟨Nat.le_of_ble_eq_true rfl, Nat.le_of_ble_eq_true rfl⟩) (hs_preV hK hN (hs_subP (w := [_, _, _]) hP [0, 1, 2] rfl) (hD.sub (ws' := [_, _, _]) [0, 1, 2] (hs_upnd rfl) rfl) (ci := 7) (q0 := 0) rfl rfl) rfl rfl hl.1 rfl (lv_room (Nat.le_of_ble_eq_true rfl)) dX8_orders_34 ⟨Nat.le_of_ble_eq_true rfl, Nat.le_of_ble_eq_true rfl⟩) hP hD hS hA [false, false, false, true, true] [_, _] [_, _, _] rfl [0, 1, 2] rfl [0, 1, 2] (fun u_28 => [_, _, _]) (fun _ => rfl) (hs_upnd rfl) [false, false, false, true, true] (fun u_28 => [_, _, _, _, _]) (fun _ => rfl) (fun u_28 H locs hw_27 hP hD hS => ?_)
      have hw_27 : ∀ j, j < 44 → u_28 j = sf j := hw_27
      have e0a : u_28 0 = nI c0 := (hw_27 0 (by decide)).trans e0
      have e3a : u_28 16 = nI c3 := (hw_27 16 (by decide)).trans e3
      have e4a : u_28 25 = nI c4 := (hw_27 25 (by decide)).trans e4
      have hw_27 : ∀ j, j < 44 → u_28 j = sf j := hw_27
      refine lv_aload_n hx hb dX8_orders_37 rfl (lv_at hl 0 rfl) ?_
      refine lv_aload_n hx hb dX8_orders_38 rfl (lv_at hl 0 rfl) ?_
      refine va_get (D := D) (ci := 7) (v := .int (nI mo_hm)) (C := RX8) (T := TX8) (N := 32) hx hb hts hiX8 hown hK hP 0 rfl rfl 4 (Nat.le_of_ble_eq_true rfl) fl66 (fun _ h9 => h9) rfl dX8_orders_39 ?_
      refine hs_cvM (va_runV (As := [.int (nI mo_hm)]) (rest := []) ⟨hx, hb, hml, hown, hts⟩ (gr_findOrders l D k _ mo mo_st mo_at mo_isKept mo_pe mo_hm mo_draft mo_dp mo_dh mo_toldLines mo_highest mo_tape mo_tl mo_ps mo_fr mo_sort mo_value mo_ft mo_wrongAt mo_row mo_orderMany mo_fo mo_lightest mo_heaviest mo_before mo_justSum mo_toldSum mo_allWays mo_lanes mo_sizes mo_cells mo_torn mo_had u_28 rf bf mo_hm lt hv c3 hm2 hm5 e3a h3 (fun k hk => ⟨(hw_27 (17 + k) (by omega)).trans (hpr k hk).1, by have h9 := (hpr k hk).2; omega, by have h9 := (hpr k hk).2; omega⟩)) (cwV 1 hts gX8_orders_X8_findOrders rfl rfl rfl ⟨rfl, hq_X8_findOrders⟩ ⟨Nat.le_of_ble_eq_true rfl, Nat.le_of_ble_eq_true rfl⟩) (hs_preV hK hN (hs_subP (w := [_, _, _, _]) hP [0, 2, 3, 4] rfl) (hD.sub (ws' := [_, _, _, _]) [0, 2, 3, 4] (hs_upnd rfl) rfl) (ci := 7) (q0 := 0) rfl rfl) rfl rfl hl.1 rfl (lv_room (Nat.le_of_ble_eq_true rfl)) dX8_orders_42 ⟨Nat.le_of_ble_eq_true rfl, Nat.le_of_ble_eq_true rfl⟩) hP hD hS hA [false, true, false, false, false] [_] [_, _, _, _] rfl [0, 1, 2, 3] rfl [0, 1, 2, 3] (fun u_31 => [_, _, _, _]) (fun _ => rfl) (hs_upnd rfl) [false, true, false, false, false] (fun u_31 => [_, _, _, _, _]) (fun _ => rfl) (fun u_31 H locs hw_30 hP hD hS => ?_)
      have hw_30 : foI mo_hm lt hv c3 (mo_hm ^ mo_hm) u_31.1.1 u_31.1.2.1 u_31.1.2.2.1 u_31.1.2.2.2 u_31.2.2 ∧ u_31.1.1 ≤ 3125 ∧ u_31.1.2.1 ≤ 3125 ∧ u_31.1.2.2.1 < 32 ∧ u_31.1.2.2.2 < 32 := hw_30
      have hb9 := hw_30.2.2.1
      refine lv_aload_n hx hb dX8_orders_45 rfl (lv_at hl 0 rfl) ?_
      refine lv_aload_n hx hb dX8_orders_46 rfl (lv_at hl 0 rfl) ?_
      refine va_get (D := D) (ci := 7) (v := .int (nI (u_31.1.2.1))) (C := RX8) (T := TX8) (N := 32) hx hb hts hiX8 hown hK hP 0 rfl rfl 20 (Nat.le_of_ble_eq_true rfl) fl204 (fun _ h9 => h9) rfl dX8_orders_47 ?_
      refine lv_aload_n hx hb dX8_orders_50 rfl (lv_at hl 0 rfl) ?_
      refine va_get (D := D) (ci := 7) (v := .int (nI mo_hm)) (C := RX8) (T := TX8) (N := 32) hx hb hts hiX8 hown hK hP 0 rfl rfl 4 (Nat.le_of_ble_eq_true rfl) fl66 (fun _ h9 => h9) rfl dX8_orders_51 ?_
      refine hs_ciM (va_runV (As := [.int (nI (u_31.1.2.1)), .int (nI mo_hm)]) (rest := []) ⟨hx, hb, hml, hown, hts⟩ (gr_isOrder l D k _ mo mo_st mo_at mo_isKept mo_pe mo_hm mo_draft mo_dp mo_dh mo_toldLines mo_highest mo_tape mo_tl mo_ps mo_fr mo_sort mo_value mo_ft mo_wrongAt mo_row (nI (u_31.1.1)) u_31.1.2.1 (nI (u_31.1.2.2.1)) (nI (u_31.1.2.2.2)) mo_before mo_justSum mo_toldSum mo_allWays mo_lanes mo_sizes mo_cells mo_torn mo_had u_31.2.1 u_31.1.2.1 mo_hm (by omega) (by omega) (by omega)) (cwV 2 hts gX8_orders_X8_isOrder rfl rfl rfl ⟨rfl, hq_X8_isOrder⟩ ⟨Nat.le_of_ble_eq_true rfl, Nat.le_of_ble_eq_true rfl⟩) (hs_preV hK hN (hs_subP (w := [_, _]) hP [0, 3] rfl) (hD.sub (ws' := [_, _]) [0, 3] (hs_upnd rfl) rfl) (ci := 7) (q0 := 0) rfl rfl) rfl rfl hl.1 rfl (lv_room (Nat.le_of_ble_eq_true rfl)) dX8_orders_54 ⟨Nat.le_of_ble_eq_true rfl, Nat.le_of_ble_eq_true rfl⟩) hP hD hS hA [false, true, true, false, true] [_, _, _] [_, _] rfl [0, 1] rfl [0, 1] (fun u_34 => [_, _]) (fun _ => rfl) (hs_upnd rfl) [false, true, true, false, true] (fun u_34 => [_, _, _, _, _]) (fun _ => rfl) (fun r_32 u_34 H locs hw_33 hP hD hS => ?_)
      have hw_33 : r_32 = hsb (decide (hs2 mo_hm u_31.1.2.1 mo_hm = 2 ^ mo_hm - 1)) ∧ ∀ j, j < mo_hm → (u_34 j = nI (hdg mo_hm u_31.1.2.1 j) ∧ hdg mo_hm u_31.1.2.1 j < mo_hm) := hw_33
      refine hs_topi (hsb (decide (hs2 mo_hm u_31.1.2.1 mo_hm = 2 ^ mo_hm - 1))) hw_33.1 ?_
      refine lv_pop hx hb dX8_orders_57 rfl ?_
      refine lv_iload_n hx hb dX8_orders_58 rfl (lv_at hl 1 rfl) ?_
      refine lv_if_ne (tgt := 69) hx hb dX8_orders_59 rfl (fun c_35 => ?_) (fun c_35 => absurd c_35 (by decide))
      refine lv_iload_n hx hb dX8_orders_69 rfl (lv_at hl 1 rfl) ?_
      refine lv_iconst (v := 1) hx hb dX8_orders_70 hki_1 ?_
      refine lv_icmp_ne (tgt := 81) hx hb dX8_orders_71 rfl (fun c_36 => ?_) (fun c_36 => absurd c_36 (by decide))
      refine lv_iload_n hx hb dX8_orders_81 rfl (lv_at hl 1 rfl) ?_
      refine lv_iconst (v := 2) hx hb dX8_orders_82 hki_2 ?_
      refine lv_icmp_ne (tgt := 93) hx hb dX8_orders_83 rfl (fun c_37 => absurd c_37 (by decide)) (fun c_37 => ?_)
      refine lv_aload_n hx hb dX8_orders_86 rfl (lv_at hl 0 rfl) ?_
      refine va_get (D := D) (ci := 7) (v := .int (nI (u_31.1.2.2.2))) (C := RX8) (T := TX8) (N := 32) hx hb hts hiX8 hown hK hP 0 rfl rfl 22 (Nat.le_of_ble_eq_true rfl) fl210 (fun _ h9 => h9) rfl dX8_orders_87 ?_
      refine lv_goto (tgt := 102) hx hb dX8_orders_90 rfl ?_
      exact hs_iret hx hb hr hlocks hK hP hD hS (u_28, ((nI (u_31.1.1), u_31.1.2.1, nI (u_31.1.2.2.1), nI (u_31.1.2.2.2)), u_34, u_31.2.2)) [0, 1, 2, 3, 4] rfl (hs_upnd rfl) dX8_orders_102 ((by rw [A_ordM, A_orQ, if_neg (by decide), if_neg (by decide), if_pos rfl, ← hw_30.1.2.2.2.1]))
  · refine lv_iload_n hx hb dX8_orders_12 rfl (lv_at hl 1 rfl) ?_
    refine lv_bipush (v := 10) hx hb dX8_orders_13 hkb_10 ?_
    refine lv_isub hx hb dX8_orders_15 ?_
    refine lv_i2l hx hb dX8_orders_16 rfl ?_
    refine lv_lconst (v := 0) hx hb dX8_orders_17 (by decide) ?_
    refine lv_aload_n hx hb dX8_orders_18 rfl (lv_at hl 0 rfl) ?_
    refine va_get (D := D) (ci := 7) (v := .int (nI mo_hm)) (C := RX8) (T := TX8) (N := 32) hx hb hts hiX8 hown hK hP 0 rfl rfl 4 (Nat.le_of_ble_eq_true rfl) fl66 (fun _ h9 => h9) rfl dX8_orders_19 ?_
    refine lv_iconst (v := 1) hx hb dX8_orders_22 hki_1 ?_
    refine lv_isub hx hb dX8_orders_23 ?_
    refine lv_i2l hx hb dX8_orders_24 rfl ?_
    refine hs_pi (va_runS (As := [.long (((what - 10) : Int32).toInt64), .long 0, .long ((((nI mo_hm) - 1) : Int32).toInt64)]) (rest := []) ⟨hx, hb, hml, hown, hts⟩ (gm_in l D k _ (what - 10) 0 ((nI mo_hm) - 1)) (va_cwS 3 hts gX8_orders_X8_in rfl rfl rfl hq_X8_in ⟨Nat.le_of_ble_eq_true rfl, Nat.le_of_ble_eq_true rfl⟩) (hs_preS hK hN (hs_subP (w := []) hP [] rfl) (hD.sub (ws' := []) [] rfl rfl)) rfl rfl hl.1 rfl (lv_room (Nat.le_of_ble_eq_true rfl)) dX8_orders_25 ⟨Nat.le_of_ble_eq_true rfl, Nat.le_of_ble_eq_true rfl⟩) hP hD hS hA (fun r_38 u_40 H locs hw_39 hP hS => ?_)
    refine hs_topi (hsb (hsin (what - 10) 0 ((nI mo_hm) - 1))) hw_39 ?_
    refine lv_if_ne (tgt := 33) hx hb dX8_orders_28 rfl (fun c_41 => ?_) (fun c_41 => ?_)
    · refine lv_aload_n hx hb dX8_orders_33 rfl (lv_at hl 0 rfl) ?_
      refine hs_cvM (va_runV (As := []) (rest := []) ⟨hx, hb, hml, hown, hts⟩ (gm_starts l D k _ mo mo_st mo_at mo_isKept mo_pe mo_hm mo_draft mo_dp mo_dh mo_toldLines mo_highest mo_tape mo_tl mo_ps mo_fr mo_sort mo_value mo_ft mo_wrongAt mo_row mo_orderMany mo_fo mo_lightest mo_heaviest mo_before mo_justSum mo_toldSum mo_allWays mo_lanes mo_sizes mo_cells mo_torn mo_had sf af) (cwV 0 hts gX8_orders_X8_starts rfl rfl rfl ⟨rfl, hq_X8_starts⟩ ⟨Nat.le_of_ble_eq_true rfl, Nat.le_of_ble_eq_true rfl⟩) (hs_preV hK hN (hs_subP (w := [_, _, _]) hP [0, 1, 2] rfl) (hD.sub (ws' := [_, _, _]) [0, 1, 2] (hs_upnd rfl) rfl) (ci := 7) (q0 := 0) rfl rfl) rfl rfl hl.1 rfl (lv_room (Nat.le_of_ble_eq_true rfl)) dX8_orders_34 ⟨Nat.le_of_ble_eq_true rfl, Nat.le_of_ble_eq_true rfl⟩) hP hD hS hA [false, false, false, true, true] [_, _] [_, _, _] rfl [0, 1, 2] rfl [0, 1, 2] (fun u_44 => [_, _, _]) (fun _ => rfl) (hs_upnd rfl) [false, false, false, true, true] (fun u_44 => [_, _, _, _, _]) (fun _ => rfl) (fun u_44 H locs hw_43 hP hD hS => ?_)
      have hw_43 : ∀ j, j < 44 → u_44 j = sf j := hw_43
      have e0a : u_44 0 = nI c0 := (hw_43 0 (by decide)).trans e0
      have e3a : u_44 16 = nI c3 := (hw_43 16 (by decide)).trans e3
      have e4a : u_44 25 = nI c4 := (hw_43 25 (by decide)).trans e4
      have hw_43 : ∀ j, j < 44 → u_44 j = sf j := hw_43
      refine lv_aload_n hx hb dX8_orders_37 rfl (lv_at hl 0 rfl) ?_
      refine lv_aload_n hx hb dX8_orders_38 rfl (lv_at hl 0 rfl) ?_
      refine va_get (D := D) (ci := 7) (v := .int (nI mo_hm)) (C := RX8) (T := TX8) (N := 32) hx hb hts hiX8 hown hK hP 0 rfl rfl 4 (Nat.le_of_ble_eq_true rfl) fl66 (fun _ h9 => h9) rfl dX8_orders_39 ?_
      refine hs_cvM (va_runV (As := [.int (nI mo_hm)]) (rest := []) ⟨hx, hb, hml, hown, hts⟩ (gr_findOrders l D k _ mo mo_st mo_at mo_isKept mo_pe mo_hm mo_draft mo_dp mo_dh mo_toldLines mo_highest mo_tape mo_tl mo_ps mo_fr mo_sort mo_value mo_ft mo_wrongAt mo_row mo_orderMany mo_fo mo_lightest mo_heaviest mo_before mo_justSum mo_toldSum mo_allWays mo_lanes mo_sizes mo_cells mo_torn mo_had u_44 rf bf mo_hm lt hv c3 hm2 hm5 e3a h3 (fun k hk => ⟨(hw_43 (17 + k) (by omega)).trans (hpr k hk).1, by have h9 := (hpr k hk).2; omega, by have h9 := (hpr k hk).2; omega⟩)) (cwV 1 hts gX8_orders_X8_findOrders rfl rfl rfl ⟨rfl, hq_X8_findOrders⟩ ⟨Nat.le_of_ble_eq_true rfl, Nat.le_of_ble_eq_true rfl⟩) (hs_preV hK hN (hs_subP (w := [_, _, _, _]) hP [0, 2, 3, 4] rfl) (hD.sub (ws' := [_, _, _, _]) [0, 2, 3, 4] (hs_upnd rfl) rfl) (ci := 7) (q0 := 0) rfl rfl) rfl rfl hl.1 rfl (lv_room (Nat.le_of_ble_eq_true rfl)) dX8_orders_42 ⟨Nat.le_of_ble_eq_true rfl, Nat.le_of_ble_eq_true rfl⟩) hP hD hS hA [false, true, false, false, false] [_] [_, _, _, _] rfl [0, 1, 2, 3] rfl [0, 1, 2, 3] (fun u_47 => [_, _, _, _]) (fun _ => rfl) (hs_upnd rfl) [false, true, false, false, false] (fun u_47 => [_, _, _, _, _]) (fun _ => rfl) (fun u_47 H locs hw_46 hP hD hS => ?_)
      have hw_46 : foI mo_hm lt hv c3 (mo_hm ^ mo_hm) u_47.1.1 u_47.1.2.1 u_47.1.2.2.1 u_47.1.2.2.2 u_47.2.2 ∧ u_47.1.1 ≤ 3125 ∧ u_47.1.2.1 ≤ 3125 ∧ u_47.1.2.2.1 < 32 ∧ u_47.1.2.2.2 < 32 := hw_46
      have hb9 := hw_46.2.2.1
      refine lv_aload_n hx hb dX8_orders_45 rfl (lv_at hl 0 rfl) ?_
      refine lv_aload_n hx hb dX8_orders_46 rfl (lv_at hl 0 rfl) ?_
      refine va_get (D := D) (ci := 7) (v := .int (nI (u_47.1.2.1))) (C := RX8) (T := TX8) (N := 32) hx hb hts hiX8 hown hK hP 0 rfl rfl 20 (Nat.le_of_ble_eq_true rfl) fl204 (fun _ h9 => h9) rfl dX8_orders_47 ?_
      refine lv_aload_n hx hb dX8_orders_50 rfl (lv_at hl 0 rfl) ?_
      refine va_get (D := D) (ci := 7) (v := .int (nI mo_hm)) (C := RX8) (T := TX8) (N := 32) hx hb hts hiX8 hown hK hP 0 rfl rfl 4 (Nat.le_of_ble_eq_true rfl) fl66 (fun _ h9 => h9) rfl dX8_orders_51 ?_
      refine hs_ciM (va_runV (As := [.int (nI (u_47.1.2.1)), .int (nI mo_hm)]) (rest := []) ⟨hx, hb, hml, hown, hts⟩ (gr_isOrder l D k _ mo mo_st mo_at mo_isKept mo_pe mo_hm mo_draft mo_dp mo_dh mo_toldLines mo_highest mo_tape mo_tl mo_ps mo_fr mo_sort mo_value mo_ft mo_wrongAt mo_row (nI (u_47.1.1)) u_47.1.2.1 (nI (u_47.1.2.2.1)) (nI (u_47.1.2.2.2)) mo_before mo_justSum mo_toldSum mo_allWays mo_lanes mo_sizes mo_cells mo_torn mo_had u_47.2.1 u_47.1.2.1 mo_hm (by omega) (by omega) (by omega)) (cwV 2 hts gX8_orders_X8_isOrder rfl rfl rfl ⟨rfl, hq_X8_isOrder⟩ ⟨Nat.le_of_ble_eq_true rfl, Nat.le_of_ble_eq_true rfl⟩) (hs_preV hK hN (hs_subP (w := [_, _]) hP [0, 3] rfl) (hD.sub (ws' := [_, _]) [0, 3] (hs_upnd rfl) rfl) (ci := 7) (q0 := 0) rfl rfl) rfl rfl hl.1 rfl (lv_room (Nat.le_of_ble_eq_true rfl)) dX8_orders_54 ⟨Nat.le_of_ble_eq_true rfl, Nat.le_of_ble_eq_true rfl⟩) hP hD hS hA [false, true, true, false, true] [_, _, _] [_, _] rfl [0, 1] rfl [0, 1] (fun u_50 => [_, _]) (fun _ => rfl) (hs_upnd rfl) [false, true, true, false, true] (fun u_50 => [_, _, _, _, _]) (fun _ => rfl) (fun r_48 u_50 H locs hw_49 hP hD hS => ?_)
      have hw_49 : r_48 = hsb (decide (hs2 mo_hm u_47.1.2.1 mo_hm = 2 ^ mo_hm - 1)) ∧ ∀ j, j < mo_hm → (u_50 j = nI (hdg mo_hm u_47.1.2.1 j) ∧ hdg mo_hm u_47.1.2.1 j < mo_hm) := hw_49
      refine hs_topi (hsb (decide (hs2 mo_hm u_47.1.2.1 mo_hm = 2 ^ mo_hm - 1))) hw_49.1 ?_
      refine lv_pop hx hb dX8_orders_57 rfl ?_
      refine lv_iload_n hx hb dX8_orders_58 rfl (lv_at hl 1 rfl) ?_
      refine lv_if_ne (tgt := 69) hx hb dX8_orders_59 rfl (fun c_51 => ?_) (fun c_51 => (by rw [c_51] at c_4; exact absurd c_4 (by decide)))
      refine lv_iload_n hx hb dX8_orders_69 rfl (lv_at hl 1 rfl) ?_
      refine lv_iconst (v := 1) hx hb dX8_orders_70 hki_1 ?_
      refine lv_icmp_ne (tgt := 81) hx hb dX8_orders_71 rfl (fun c_52 => ?_) (fun c_52 => (by rw [c_52] at c_4; exact absurd c_4 (by decide)))
      refine lv_iload_n hx hb dX8_orders_81 rfl (lv_at hl 1 rfl) ?_
      refine lv_iconst (v := 2) hx hb dX8_orders_82 hki_2 ?_
      refine lv_icmp_ne (tgt := 93) hx hb dX8_orders_83 rfl (fun c_53 => ?_) (fun c_53 => (by rw [c_53] at c_4; exact absurd c_4 (by decide)))
      obtain ⟨jw, hjw, ejw⟩ := hslt_ex ((hslt_in (show mo_hm < 2 ^ 30 by omega)).symm.trans (hs_nb c_41))
      have ew9 : what = nI (jw + 10) := by rw [← Int32.sub_add_cancel what 10, ejw]; exact nI_add jw 10
      refine lv_aload_n hx hb dX8_orders_93 rfl (lv_at hl 0 rfl) ?_
      refine va_get (D := D) (ci := 7) (v := .ref mo_row) (C := RX8) (T := TX8) (N := 32) hx hb hts hiX8 hown hK hP 0 rfl rfl 18 (Nat.le_of_ble_eq_true rfl) fl26 (fun _ h9 => h9) rfl dX8_orders_94 ?_
      refine lv_iload_n hx hb dX8_orders_97 rfl (lv_at hl 1 rfl) ?_
      refine lv_bipush (v := 10) hx hb dX8_orders_98 hkb_10 ?_
      refine lv_isub hx hb dX8_orders_100 ?_
      refine va_iald hx hb hK hP 3 0 rfl rfl (by rw [ejw]; exact vp_in_nI (show jw < 5 by omega) (by decide)) dX8_orders_101 ?_
      refine hs_topi (nI (hdg mo_hm (u_47.1.2.1) jw)) (by rw [ejw, nI_clamp (by omega)]; exact (hw_49.2 jw hjw).1) ?_
      exact hs_iret hx hb hr hlocks hK hP hD hS (u_44, ((nI (u_47.1.1), u_47.1.2.1, nI (u_47.1.2.2.1), nI (u_47.1.2.2.2)), u_50, u_47.2.2)) [0, 1, 2, 3, 4] rfl (hs_upnd rfl) dX8_orders_102 ((by rw [A_ordM, ew9, A_orQ_j hm5 hjw, ← hw_46.1.2.1]))
    · refine lv_iconst (v := (-1)) hx hb dX8_orders_31 hki_m1 ?_
      exact hs_iret hx hb hr hlocks hK hP hD hS (af, ((mo_orderMany, mo_fo, mo_lightest, mo_heaviest), rf, bf)) [0, 1, 2, 3, 4] rfl (hs_upnd rfl) dX8_orders_32 ((A_orQ_bad (by omega) hm5 (hs_n0 c_4) (hs_n0 c_41)).symm)
