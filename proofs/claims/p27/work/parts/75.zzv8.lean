set_option maxHeartbeats 4000000 in
set_option maxRecDepth 100000 in
theorem gpf_next (l : Launch) (D : va_G) (k : Nat → ClassId) (sz : Nat) (h : Nat) (h_now : Nat) (h_trial : Nat) (h_images : Nat) (h_imageThere : Nat) (h_teller : Nat) (h_ranks : Nat) (h_court : Nat) (h_sheets : Nat) (h_lf : Int32) (h_lt : Int32) (n_a : Nat → Nat) (n_N : Nat → Nat) (n_J : Nat → Int32) (n_F : Nat → Nat → Int32) (q_ahead : Nat) (q_ways : Nat) (q_z : Nat) (af : Nat → Int32) (wf : Nat → Int32) (what : Int32) (hN0 : thN n_N) (hF : thF n_N n_F) (h2 : 2 ≤ n_N 0) (hB : thB n_N n_J n_F) : MI l yX7_next wsX7_next ({ frames := 3, cells := 0, slots := 0, locals := 71 }) D k [.ref h, .int what] [oq6 h h_now h_trial h_images h_imageThere h_teller h_ranks h_court h_sheets h_lf h_lt, oqT h_now n_a n_N n_J, oqF0 k n_a n_F, oqF1 k n_a n_F, oqF2 k n_a n_F, oqF3 k n_a n_F, oqF4 k n_a n_F, oqF5 k n_a n_F, oqF6 k n_a n_F, oq1 h_ranks q_ahead q_ways (nI q_z), oqI k q_ahead 5 (af), oqI k q_ways 32 (wf)] sz (fun (r : Int32) (u : Nat × (Nat → Int32) × (Nat → Int32)) => r = A_nxC n_N n_F what) (fun (u : Nat × (Nat → Int32) × (Nat → Int32)) => [oq6 h h_now h_trial h_images h_imageThere h_teller h_ranks h_court h_sheets h_lf h_lt, oqT h_now n_a n_N n_J, oqF0 k n_a n_F, oqF1 k n_a n_F, oqF2 k n_a n_F, oqF3 k n_a n_F, oqF4 k n_a n_F, oqF5 k n_a n_F, oqF6 k n_a n_F, oq1 h_ranks q_ahead q_ways (nI (u.1)), oqI k q_ahead 5 (u.2.1), oqI k q_ways 32 (u.2.2)]) := by
  refine Met.ofW (cc := cX7_next) (maxL := 7) (ret := (some .int)) hpn_X7 rfl ?_
  intro p e s m args below meth c s₁ B hml hv
  obtain ⟨rfl, hsz, hP, hK, hD0, hN⟩ := hv
  have hx := B.exec
  have hb := B.bytes
  have hr := B.returns
  have hlocks := B.notSynchronized
  have hts := atoms_spec (ws := wsX7_next) B.pre
  have hown := findClass_of_methodNamed B.named
  have hown : s.vm.findClass RX7 = some m.cls := hown
  have hiX6 : ∀ w ∈ u_ws RX6 TX6 15, w ∈ wsX7_next := fun w9 hw9 => List.mem_cons_of_mem _ (igX6 w9 hw9)
  have hiX7 : ∀ w ∈ u_ws RX7 TX7 10, w ∈ wsX7_next := fun w9 hw9 => List.mem_cons_of_mem _ (igX7 w9 hw9)
  have fl37 := hts (.fieldLink RX7 37 "HalfScales" "ranks" "LHalfScales$Ranks;") (List.mem_cons_of_mem _ (hs_inG 1 220 rfl rfl))
  have fl10 := hts (.fieldLink RX7 10 "HalfScales" "now" "LHalfScales$Thing;") (List.mem_cons_of_mem _ (hs_inG 1 215 rfl rfl))
  have fl108 := hts (.fieldLink RX7 108 "HalfScales$Thing" "halfCount" "I") (List.mem_cons_of_mem _ (hs_inG 1 71 rfl rfl))
  have mm227 := hts (.methodLink RX7 227 Lib.Math.max.name) (List.mem_cons_of_mem _ (hs_inG 3 173 rfl rfl))
  have msmax := hts (.static Lib.Math.max.name) (List.mem_cons_of_mem _ (hs_inG 3 174 rfl rfl))
  have mi := hts (.initialized "java/lang/Math") (List.mem_cons_of_mem _ (hs_inG 1 14 rfl rfl))
  have mcmax := hts (.code Lib.Math.max.name Lib.Math.max.code 2 (some .int)) (List.mem_cons_of_mem _ (hs_inG 3 175 rfl rfl))
  have hNn := hN0
  obtain ⟨I0, I1, ⟨I2, I2b⟩, I3, I4⟩ := hN0
  subst hsz
  have hD := hD0.self (sz := s.heap.size)
  generalize hAe : va_A [oq6 h h_now h_trial h_images h_imageThere h_teller h_ranks h_court h_sheets h_lf h_lt, oqT h_now n_a n_N n_J, oqF0 k n_a n_F, oqF1 k n_a n_F, oqF2 k n_a n_F, oqF3 k n_a n_F, oqF4 k n_a n_F, oqF5 k n_a n_F, oqF6 k n_a n_F, oq1 h_ranks q_ahead q_ways (nI q_z), oqI k q_ahead 5 (af), oqI k q_ways 32 (wf)] s.heap.size = A at hD ⊢
  have hA : ∀ q : Nat, s.heap.size ≤ q → A q := fun q h => by rw [← hAe]; exact Or.inr h
  have hS : va_S A s.heap s.heap [] := va_S.rf
  have hl := lv_entry ([.ref h, .int what]) (n := 7) (Nat.le_of_ble_eq_true rfl)
  rw [lg_entry_eq]
  generalize (lg_sl ([.ref h, .int what]) ++ List.replicate (7 - (lg_sl ([.ref h, .int what])).length) Slot.unset).toArray = ls at hl ⊢
  have hl : lv_has ls 7 [(0, .ref h), (1, .int what)] := hl
  have hP : va_P D vwCl [oq6 h h_now h_trial h_images h_imageThere h_teller h_ranks h_court h_sheets h_lf h_lt, oqT h_now n_a n_N n_J, oqF0 k n_a n_F, oqF1 k n_a n_F, oqF2 k n_a n_F, oqF3 k n_a n_F, oqF4 k n_a n_F, oqF5 k n_a n_F, oqF6 k n_a n_F, oq1 h_ranks q_ahead q_ways (nI q_z), oqI k q_ahead 5 (af), oqI k q_ways 32 (wf)] s.heap := hP
  refine lv_iload_n hx hb dX7_next_0 rfl (lv_at hl 1 rfl) ?_
  refine lv_iconst (v := 0) hx hb dX7_next_1 hki_0 ?_
  refine lv_iconst (v := 1) hx hb dX7_next_2 hki_1 ?_
  refine hs_pi (va_runS (As := [.int what, .int 0, .int 1]) (rest := []) ⟨hx, hb, hml, hown, hts⟩ (g_within l D k _ what 0 1) (va_cwS 3 hts gX7_next_X7_within rfl rfl rfl hq_X7_within ⟨Nat.le_of_ble_eq_true rfl, Nat.le_of_ble_eq_true rfl⟩) (hs_preS hK hN (hs_subP (w := []) hP [] rfl) (hD.sub (ws' := []) [] rfl rfl)) rfl rfl hl.1 rfl (lv_room (Nat.le_of_ble_eq_true rfl)) dX7_next_3 ⟨Nat.le_of_ble_eq_true rfl, Nat.le_of_ble_eq_true rfl⟩) hP hD hS hA (fun r_1 u_3 H locs hw_2 hP hS => ?_)
  refine hs_topi (hsb (hsin what 0 1)) hw_2 ?_
  refine lv_if_ne (tgt := 11) hx hb dX7_next_6 rfl (fun c_4 => ?_) (fun c_4 => ?_)
  · refine lv_aload_n hx hb dX7_next_11 rfl (lv_at hl 0 rfl) ?_
    refine va_get (D := D) (ci := 6) (v := .ref h_ranks) (C := RX7) (T := TX7) (N := 10) hx hb hts hiX7 hown hK hP 0 rfl rfl 5 (Nat.le_of_ble_eq_true rfl) fl37 (fun _ h9 => h9) rfl dX7_next_12 ?_
    refine lv_aload_n hx hb dX7_next_15 rfl (lv_at hl 0 rfl) ?_
    refine va_get (D := D) (ci := 6) (v := .ref h_now) (C := RX7) (T := TX7) (N := 10) hx hb hts hiX7 hown hK hP 0 rfl rfl 0 (Nat.le_of_ble_eq_true rfl) fl10 (fun _ h9 => h9) rfl dX7_next_16 ?_
    refine hs_cvM (va_runV (As := [.ref h_now]) (rest := []) ⟨hx, hb, hml, hown, hts⟩ (gf_learn l D k _ h_ranks q_ahead q_ways q_z h_now n_a n_N n_J n_F af (hLt n_F) (hHv n_F) (by first | assumption | exact ⟨by first | omega | (dsimp; omega), by first | omega | (dsimp; omega), ⟨by first | omega | (dsimp; omega), by first | omega | (dsimp; omega)⟩, by first | omega | (dsimp; omega), by first | omega | (dsimp; omega)⟩) (thB_pr hB)) (cwV 1 hts gX7_next_X2_learn rfl rfl rfl ⟨rfl, hq_X2_learn⟩ ⟨Nat.le_of_ble_eq_true rfl, Nat.le_of_ble_eq_true rfl⟩) (hs_preV hK hN (hs_subP (w := [_, _, _, _, _, _, _, _, _, _]) hP [9, 10, 1, 2, 3, 4, 5, 6, 7, 8] rfl) (hD.sub (ws' := [_, _, _, _, _, _, _, _, _, _]) [9, 10, 1, 2, 3, 4, 5, 6, 7, 8] (by decide +kernel) rfl) (ci := 1) (q0 := 0) rfl rfl) rfl rfl hl.1 rfl (lv_room (Nat.le_of_ble_eq_true rfl)) dX7_next_19 ⟨Nat.le_of_ble_eq_true rfl, Nat.le_of_ble_eq_true rfl⟩) hP hD hS hA [true, false, false, false, false, false, false, false, false, false, false, true] [_, _] [_, _, _, _, _, _, _, _, _, _] rfl [8, 9, 0, 1, 2, 3, 4, 5, 6, 7] rfl [2, 3, 4, 5, 6, 7, 8, 9, 0, 1] (fun u_7 => [_, _, _, _, _, _, _, _, _, _]) (fun _ => rfl) (by decide +kernel) [true, false, false, false, false, false, false, false, false, false, false, true] (fun u_7 => [_, _, _, _, _, _, _, _, _, _, _, _]) (fun _ => rfl) (fun u_7 H locs hw_6 hP hD hS => ?_)
    have hw_6 : ∀ h, h < 5 → (u_7 h = nI (hAh (hLt n_F) (hHv n_F) (n_N 3) h) ∧ hAh (hLt n_F) (hHv n_F) (n_N 3) h < 32) := hw_6
    refine lv_aload_n hx hb dX7_next_22 rfl (lv_at hl 0 rfl) ?_
    refine va_get (D := D) (ci := 6) (v := .ref h_ranks) (C := RX7) (T := TX7) (N := 10) hx hb hts hiX7 hown hK hP 0 rfl rfl 5 (Nat.le_of_ble_eq_true rfl) fl37 (fun _ h9 => h9) rfl dX7_next_23 ?_
    refine hs_ciM (va_runV (As := []) (rest := []) ⟨hx, hb, hml, hown, hts⟩ (gf_howMany l D k _ h_ranks q_ahead q_ways (n_N 2) u_7 wf (hAh (hLt n_F) (hHv n_F) (n_N 3)) (by omega) hw_6) (cwV 0 hts gX7_next_X2_howMany rfl rfl rfl ⟨rfl, hq_X2_howMany⟩ ⟨Nat.le_of_ble_eq_true rfl, Nat.le_of_ble_eq_true rfl⟩) (hs_preV hK hN (hs_subP (w := [_, _, _]) hP [9, 10, 11] rfl) (hD.sub (ws' := [_, _, _]) [9, 10, 11] (hs_upnd rfl) rfl) (ci := 1) (q0 := 0) rfl rfl) rfl rfl hl.1 rfl (lv_room (Nat.le_of_ble_eq_true rfl)) dX7_next_26 ⟨Nat.le_of_ble_eq_true rfl, Nat.le_of_ble_eq_true rfl⟩) hP hD hS hA [true, true, true, true, true, true, true, true, true, false, false, false] [_, _, _, _, _, _, _, _, _] [_, _, _] rfl [0, 1, 2] rfl [0, 1, 2] (fun u_10 => [_, _, _]) (fun _ => rfl) (hs_upnd rfl) [true, true, true, true, true, true, true, true, true, false, false, false] (fun u_10 => [_, _, _, _, _, _, _, _, _, _, _, _]) (fun _ => rfl) (fun r_8 u_10 H locs hw_9 hP hD hS => ?_)
    refine hs_topi (nI (Wm (n_N 2) (hAh (hLt n_F) (hHv n_F) (n_N 3)) (n_N 2) (2 ^ (n_N 2) - 1))) hw_9 ?_
    refine lv_istore_n (lv' := [(2, .int (nI (Wm (n_N 2) (hAh (hLt n_F) (hHv n_F) (n_N 3)) (n_N 2) (2 ^ (n_N 2) - 1)))), (0, .ref h), (1, .int what)]) hx hb dX7_next_29 rfl hl (Nat.le_of_ble_eq_true rfl) rfl (fun ls hl => ?_)
    refine lv_bipush (v := (-4)) hx hb dX7_next_30 hkb_m4 ?_
    refine lv_istore_n (lv' := [(3, .int (-4)), (2, .int (nI (Wm (n_N 2) (hAh (hLt n_F) (hHv n_F) (n_N 3)) (n_N 2) (2 ^ (n_N 2) - 1)))), (0, .ref h), (1, .int what)]) hx hb dX7_next_32 rfl hl (Nat.le_of_ble_eq_true rfl) rfl (fun ls hl => ?_)
    refine lv_iconst (v := 0) hx hb dX7_next_33 hki_0 ?_
    refine lv_istore (lv' := [(4, .int 0), (3, .int (-4)), (2, .int (nI (Wm (n_N 2) (hAh (hLt n_F) (hHv n_F) (n_N 3)) (n_N 2) (2 ^ (n_N 2) - 1)))), (0, .ref h), (1, .int what)]) hx hb dX7_next_34 hl (Nat.le_of_ble_eq_true rfl) rfl (fun ls hl => ?_)
    refine hs_while (σ := Int32 × Int32 × Nat × (Nat → Int32) × (Nat → Int32)) (fun x => x.2.2.1 ≤ n_N 2 ∧ x.1 = (A_na (A_nLC (n_N 2) (hAh (hLt n_F) (hHv n_F) (n_N 3))) (n_N 2) (nI (Wm (n_N 2) (hAh (hLt n_F) (hHv n_F) (n_N 3)) (n_N 2) (2 ^ n_N 2 - 1)), -4) x.2.2.1).1 ∧ x.2.1 = (A_na (A_nLC (n_N 2) (hAh (hLt n_F) (hHv n_F) (n_N 3))) (n_N 2) (nI (Wm (n_N 2) (hAh (hLt n_F) (hHv n_F) (n_N 3)) (n_N 2) (2 ^ n_N 2 - 1)), -4) x.2.2.1).2 ∧ ∀ h9, h9 < 5 → (x.2.2.2.1 h9 = nI ((hAh (hLt n_F) (hHv n_F) (n_N 3)) h9) ∧ (hAh (hLt n_F) (hHv n_F) (n_N 3)) h9 < 32)) (fun x => n_N 2 - x.2.2.1) (fun x => [oq6 h h_now h_trial h_images h_imageThere h_teller h_ranks h_court h_sheets h_lf h_lt, oqT h_now n_a n_N n_J, oqF0 k n_a n_F, oqF1 k n_a n_F, oqF2 k n_a n_F, oqF3 k n_a n_F, oqF4 k n_a n_F, oqF5 k n_a n_F, oqF6 k n_a n_F, oq1 h_ranks q_ahead q_ways (nI (n_N 2)), oqI k q_ahead 5 ((x.2.2.2.1)), oqI k q_ways 32 ((x.2.2.2.2))]) (fun x => [(4, .int (nI (x.2.2.1))), (3, .int (x.2.1)), (2, .int (x.1)), (0, .ref h), (1, .int what)]) ?_ (nI (Wm (n_N 2) (hAh (hLt n_F) (hHv n_F) (n_N 3)) (n_N 2) (2 ^ (n_N 2) - 1)), (-4), 0, u_7, u_10) ?_ hP hD hS hl
    · intro x hI ih36 H locs ls hP hD hS hl
      obtain ⟨le, be, x1, af1, wf1⟩ := x
      try dsimp only at hI
      have hP : va_P D vwCl [_, _, _, _, _, _, _, _, _, _, oqI k q_ahead 5 (af1), oqI k q_ways 32 (wf1)] H := hP
      have hD : va_D A [_, _, _, _, _, _, _, _, _, _, oqI k q_ahead 5 (af1), oqI k q_ways 32 (wf1)] := hD
      have hl : lv_has ls 7 [(4, .int (nI x1)), (3, .int be), (2, .int le), (0, .ref h), (1, .int what)] := hl
      refine lv_iload hx hb dX7_next_36 (lv_at hl 0 rfl) ?_
      refine lv_aload_n hx hb dX7_next_38 rfl (lv_at hl 3 rfl) ?_
      refine va_get (D := D) (ci := 6) (v := .ref h_now) (C := RX7) (T := TX7) (N := 10) hx hb hts hiX7 hown hK hP 0 rfl rfl 0 (Nat.le_of_ble_eq_true rfl) fl10 (fun _ h9 => h9) rfl dX7_next_39 ?_
      refine va_get (D := D) (ci := 5) (v := .int (nI (n_N 2))) (C := RX6) (T := TX6) (N := 15) hx hb hts hiX6 hown hK hP 1 rfl rfl 12 (Nat.le_of_ble_eq_true rfl) fl108 (fun _ h9 => h9) rfl dX7_next_42 ?_
      refine lv_icmp_ge (tgt := 123) hx hb dX7_next_45 rfl (fun c_11 => ?_) (fun c_11 => ?_)
      · have nc_11 : (n_N 2) ≤ x1 := (nI_leI (a := (n_N 2)) (b := x1) (by omega) (by omega)).mp c_11
        have e9 : x1 = n_N 2 := by omega
        have h8 := hI.2.1
        have h9 := hI.2.2.1
        rw [e9] at h8 h9
        refine lv_iload_n hx hb dX7_next_123 rfl (lv_at hl 4 rfl) ?_
        refine lv_if_eq (tgt := 133) hx hb dX7_next_124 rfl (fun c_12 => ?_) (fun c_12 => ?_)
        · refine lv_iload_n hx hb dX7_next_133 rfl (lv_at hl 1 rfl) ?_
          refine lv_goto (tgt := 138) hx hb dX7_next_134 rfl ?_
          exact hs_iret hx hb hr hlocks hK hP hD hS (n_N 2, af1, wf1) [0, 1, 2, 3, 4, 5, 6, 7, 8, 9, 10, 11] rfl (hs_upnd rfl) dX7_next_138 ((by rw [A_nxC, if_pos (hs_nb c_4), A_nxR, if_pos c_12, ← h9]))
        · refine lv_iload_n hx hb dX7_next_127 rfl (lv_at hl 1 rfl) ?_
          refine lv_bipush (v := (-4)) hx hb dX7_next_128 hkb_m4 ?_
          refine lv_icmp_ne (tgt := 137) hx hb dX7_next_130 rfl (fun c_13 => ?_) (fun c_13 => ?_)
          · refine lv_iload_n hx hb dX7_next_137 rfl (lv_at hl 2 rfl) ?_
            exact hs_iret hx hb hr hlocks hK hP hD hS (n_N 2, af1, wf1) [0, 1, 2, 3, 4, 5, 6, 7, 8, 9, 10, 11] rfl (hs_upnd rfl) dX7_next_138 ((by rw [A_nxC, if_pos (hs_nb c_4), A_nxR, if_neg c_12, if_neg (by rw [← h9]; exact c_13), ← h8]))
          · refine lv_iload_n hx hb dX7_next_133 rfl (lv_at hl 1 rfl) ?_
            refine lv_goto (tgt := 138) hx hb dX7_next_134 rfl ?_
            exact hs_iret hx hb hr hlocks hK hP hD hS (n_N 2, af1, wf1) [0, 1, 2, 3, 4, 5, 6, 7, 8, 9, 10, 11] rfl (hs_upnd rfl) dX7_next_138 ((by rw [A_nxC, if_pos (hs_nb c_4), A_nxR, if_neg c_12, if_pos (by rw [← h9]; exact c_13), ← h9]))
      · have nc_11 : ¬ (n_N 2) ≤ x1 := fun hq9 => c_11 ((nI_leI (a := (n_N 2)) (b := x1) (by omega) (by omega)).mpr hq9)
        refine lv_iload hx hb dX7_next_48 (lv_at hl 0 rfl) ?_
        refine lv_iconst (v := 1) hx hb dX7_next_50 hki_1 ?_
        refine lv_iadd hx hb dX7_next_51 ?_
        refine hs_topi (nI (x1 + 1)) (nI_add (x1) (1)) ?_
        refine lv_istore (lv' := [(5, .int (nI (x1 + 1))), (4, .int (nI x1)), (3, .int be), (2, .int le), (0, .ref h), (1, .int what)]) hx hb dX7_next_52 hl (Nat.le_of_ble_eq_true rfl) rfl (fun ls hl => ?_)
        refine hs_while (σ := Int32 × Int32 × Nat × (Nat → Int32) × (Nat → Int32)) (fun x => x1 + 1 ≤ x.2.2.1 ∧ x.2.2.1 ≤ n_N 2 ∧ x.1 = (A_nb (A_nLC (n_N 2) (hAh (hLt n_F) (hHv n_F) (n_N 3))) x1 (A_na (A_nLC (n_N 2) (hAh (hLt n_F) (hHv n_F) (n_N 3))) (n_N 2) (nI (Wm (n_N 2) (hAh (hLt n_F) (hHv n_F) (n_N 3)) (n_N 2) (2 ^ n_N 2 - 1)), -4) x1) (x.2.2.1 - (x1 + 1))).1 ∧ x.2.1 = (A_nb (A_nLC (n_N 2) (hAh (hLt n_F) (hHv n_F) (n_N 3))) x1 (A_na (A_nLC (n_N 2) (hAh (hLt n_F) (hHv n_F) (n_N 3))) (n_N 2) (nI (Wm (n_N 2) (hAh (hLt n_F) (hHv n_F) (n_N 3)) (n_N 2) (2 ^ n_N 2 - 1)), -4) x1) (x.2.2.1 - (x1 + 1))).2 ∧ ∀ h9, h9 < 5 → (x.2.2.2.1 h9 = nI ((hAh (hLt n_F) (hHv n_F) (n_N 3)) h9) ∧ (hAh (hLt n_F) (hHv n_F) (n_N 3)) h9 < 32)) (fun x => n_N 2 - x.2.2.1) (fun x => [oq6 h h_now h_trial h_images h_imageThere h_teller h_ranks h_court h_sheets h_lf h_lt, oqT h_now n_a n_N n_J, oqF0 k n_a n_F, oqF1 k n_a n_F, oqF2 k n_a n_F, oqF3 k n_a n_F, oqF4 k n_a n_F, oqF5 k n_a n_F, oqF6 k n_a n_F, oq1 h_ranks q_ahead q_ways (nI (n_N 2)), oqI k q_ahead 5 ((x.2.2.2.1)), oqI k q_ways 32 ((x.2.2.2.2))]) (fun x => [(5, .int (nI (x.2.2.1))), (4, .int (nI x1)), (3, .int (x.2.1)), (2, .int (x.1)), (0, .ref h), (1, .int what)]) ?_ (le, be, x1 + 1, af1, wf1) ?_ hP hD hS hl
        · intro x hI ih54 H locs ls hP hD hS hl
          obtain ⟨le2, be2, x2, af2, wf2⟩ := x
          try dsimp only at hI
          have hP : va_P D vwCl [_, _, _, _, _, _, _, _, _, _, oqI k q_ahead 5 (af2), oqI k q_ways 32 (wf2)] H := hP
          have hD : va_D A [_, _, _, _, _, _, _, _, _, _, oqI k q_ahead 5 (af2), oqI k q_ways 32 (wf2)] := hD
          have hl : lv_has ls 7 [(5, .int (nI x2)), (4, .int (nI x1)), (3, .int be2), (2, .int le2), (0, .ref h), (1, .int what)] := hl
          refine lv_iload hx hb dX7_next_54 (lv_at hl 0 rfl) ?_
          refine lv_aload_n hx hb dX7_next_56 rfl (lv_at hl 4 rfl) ?_
          refine va_get (D := D) (ci := 6) (v := .ref h_now) (C := RX7) (T := TX7) (N := 10) hx hb hts hiX7 hown hK hP 0 rfl rfl 0 (Nat.le_of_ble_eq_true rfl) fl10 (fun _ h9 => h9) rfl dX7_next_57 ?_
          refine va_get (D := D) (ci := 5) (v := .int (nI (n_N 2))) (C := RX6) (T := TX6) (N := 15) hx hb hts hiX6 hown hK hP 1 rfl rfl 12 (Nat.le_of_ble_eq_true rfl) fl108 (fun _ h9 => h9) rfl dX7_next_60 ?_
          refine lv_icmp_ge (tgt := 117) hx hb dX7_next_63 rfl (fun c_14 => ?_) (fun c_14 => ?_)
          · have nc_14 : (n_N 2) ≤ x2 := (nI_leI (a := (n_N 2)) (b := x2) (by omega) (by omega)).mp c_14
            refine lv_iinc (v := nI (x1 + 1)) (lv' := [(4, .int (nI (x1 + 1))), (5, .int (nI x2)), (3, .int be2), (2, .int le2), (0, .ref h), (1, .int what)]) hx hb dX7_next_117 hl (k := 1) rfl (nI_add (x1) 1) (Nat.le_of_ble_eq_true rfl) rfl (fun ls hl => ?_)
            refine lv_goto (tgt := 36) hx hb dX7_next_120 rfl ?_
            exact ih36 (le2, be2, x1 + 1, af2, wf2) (by (try dsimp only); exact ⟨by omega, by rw [A_na, hI.2.2.1, show x2 = n_N 2 by omega], by rw [A_na, hI.2.2.2.1, show x2 = n_N 2 by omega], hI.2.2.2.2⟩) (by (try dsimp only); omega) _ _ _ hP hD hS (lv_sub hl [0, 2, 3, 4, 5] rfl)
          · have nc_14 : ¬ (n_N 2) ≤ x2 := fun hq9 => c_14 ((nI_leI (a := (n_N 2)) (b := x2) (by omega) (by omega)).mpr hq9)
            refine lv_aload_n hx hb dX7_next_66 rfl (lv_at hl 4 rfl) ?_
            refine va_get (D := D) (ci := 6) (v := .ref h_ranks) (C := RX7) (T := TX7) (N := 10) hx hb hts hiX7 hown hK hP 0 rfl rfl 5 (Nat.le_of_ble_eq_true rfl) fl37 (fun _ h9 => h9) rfl dX7_next_67 ?_
            refine lv_iload hx hb dX7_next_70 (lv_at hl 1 rfl) ?_
            refine lv_iload hx hb dX7_next_72 (lv_at hl 0 rfl) ?_
            refine hs_ciM (va_runV (As := [.int (nI x1), .int (nI x2)]) (rest := []) ⟨hx, hb, hml, hown, hts⟩ (gf_howManyWith l D k _ h_ranks q_ahead q_ways (n_N 2) x1 x2 af2 wf2 (hAh (hLt n_F) (hHv n_F) (n_N 3)) (by omega) (by omega) (by omega) hI.2.2.2.2) (cwV 2 hts gX7_next_X2_howManyWith rfl rfl rfl ⟨rfl, hq_X2_howManyWith⟩ ⟨Nat.le_of_ble_eq_true rfl, Nat.le_of_ble_eq_true rfl⟩) (hs_preV hK hN (hs_subP (w := [_, _, _]) hP [9, 10, 11] rfl) (hD.sub (ws' := [_, _, _]) [9, 10, 11] (hs_upnd rfl) rfl) (ci := 1) (q0 := 0) rfl rfl) rfl rfl hl.1 rfl (lv_room (Nat.le_of_ble_eq_true rfl)) dX7_next_74 ⟨Nat.le_of_ble_eq_true rfl, Nat.le_of_ble_eq_true rfl⟩) hP hD hS hA [true, true, true, true, true, true, true, true, true, false, false, false] [_, _, _, _, _, _, _, _, _] [_, _, _] rfl [0, 1, 2] rfl [0, 1, 2] (fun u_17 => [_, _, _]) (fun _ => rfl) (hs_upnd rfl) [true, true, true, true, true, true, true, true, true, false, false, false] (fun u_17 => [_, _, _, _, _, _, _, _, _, _, _, _]) (fun _ => rfl) (fun r_15 u_17 H locs hw_16 hP hD hS => ?_)
            have hw_16 : r_15 = nI (Wm (n_N 2) (ahx (hAh (hLt n_F) (hHv n_F) (n_N 3)) x1 x2) (n_N 2) (2 ^ (n_N 2) - 1)) ∧ ∀ h, h < 5 → (u_17.1 h = nI ((hAh (hLt n_F) (hHv n_F) (n_N 3)) h) ∧ (hAh (hLt n_F) (hHv n_F) (n_N 3)) h < 32) := hw_16
            refine hs_topi (nI (Wm (n_N 2) (ahx (hAh (hLt n_F) (hHv n_F) (n_N 3)) x1 x2) (n_N 2) (2 ^ (n_N 2) - 1))) hw_16.1 ?_
            refine lv_aload_n hx hb dX7_next_77 rfl (lv_at hl 4 rfl) ?_
            refine va_get (D := D) (ci := 6) (v := .ref h_ranks) (C := RX7) (T := TX7) (N := 10) hx hb hts hiX7 hown hK hP 0 rfl rfl 5 (Nat.le_of_ble_eq_true rfl) fl37 (fun _ h9 => h9) rfl dX7_next_78 ?_
            refine lv_iload hx hb dX7_next_81 (lv_at hl 0 rfl) ?_
            refine lv_iload hx hb dX7_next_83 (lv_at hl 1 rfl) ?_
            refine hs_ciM (va_runV (As := [.int (nI x2), .int (nI x1)]) (rest := [.int (nI (Wm (n_N 2) (ahx (hAh (hLt n_F) (hHv n_F) (n_N 3)) x1 x2) (n_N 2) (2 ^ (n_N 2) - 1)))]) ⟨hx, hb, hml, hown, hts⟩ (gf_howManyWith l D k _ h_ranks q_ahead q_ways (n_N 2) x2 x1 u_17.1 u_17.2 (hAh (hLt n_F) (hHv n_F) (n_N 3)) (by omega) (by omega) (by omega) hw_16.2) (cwV 2 hts gX7_next_X2_howManyWith rfl rfl rfl ⟨rfl, hq_X2_howManyWith⟩ ⟨Nat.le_of_ble_eq_true rfl, Nat.le_of_ble_eq_true rfl⟩) (hs_preV hK hN (hs_subP (w := [_, _, _]) hP [9, 10, 11] rfl) (hD.sub (ws' := [_, _, _]) [9, 10, 11] (hs_upnd rfl) rfl) (ci := 1) (q0 := 0) rfl rfl) rfl rfl hl.1 rfl (lv_room (Nat.le_of_ble_eq_true rfl)) dX7_next_85 ⟨Nat.le_of_ble_eq_true rfl, Nat.le_of_ble_eq_true rfl⟩) hP hD hS hA [true, true, true, true, true, true, true, true, true, false, false, false] [_, _, _, _, _, _, _, _, _] [_, _, _] rfl [0, 1, 2] rfl [0, 1, 2] (fun u_20 => [_, _, _]) (fun _ => rfl) (hs_upnd rfl) [true, true, true, true, true, true, true, true, true, false, false, false] (fun u_20 => [_, _, _, _, _, _, _, _, _, _, _, _]) (fun _ => rfl) (fun r_18 u_20 H locs hw_19 hP hD hS => ?_)
            have hw_19 : r_18 = nI (Wm (n_N 2) (ahx (hAh (hLt n_F) (hHv n_F) (n_N 3)) x2 x1) (n_N 2) (2 ^ (n_N 2) - 1)) ∧ ∀ h, h < 5 → (u_20.1 h = nI ((hAh (hLt n_F) (hHv n_F) (n_N 3)) h) ∧ (hAh (hLt n_F) (hHv n_F) (n_N 3)) h < 32) := hw_19
            refine hs_topi (nI (Wm (n_N 2) (ahx (hAh (hLt n_F) (hHv n_F) (n_N 3)) x2 x1) (n_N 2) (2 ^ (n_N 2) - 1))) hw_19.1 ?_
            refine va_mmax hx hb (hml.trans hl.1.symm) hown mm227 msmax mi mcmax (Nat.le_of_ble_eq_true rfl) (Nat.le_of_ble_eq_true rfl) (Nat.zero_le _) (Nat.zero_le _) dX7_next_88 ?_
            refine lv_istore (lv' := [(6, .int (if (nI (Wm (n_N 2) (ahx (hAh (hLt n_F) (hHv n_F) (n_N 3)) x1 x2) (n_N 2) (2 ^ (n_N 2) - 1))) < (nI (Wm (n_N 2) (ahx (hAh (hLt n_F) (hHv n_F) (n_N 3)) x2 x1) (n_N 2) (2 ^ (n_N 2) - 1))) then (nI (Wm (n_N 2) (ahx (hAh (hLt n_F) (hHv n_F) (n_N 3)) x2 x1) (n_N 2) (2 ^ (n_N 2) - 1))) else (nI (Wm (n_N 2) (ahx (hAh (hLt n_F) (hHv n_F) (n_N 3)) x1 x2) (n_N 2) (2 ^ (n_N 2) - 1))))), (5, .int (nI x2)), (4, .int (nI x1)), (3, .int be2), (2, .int le2), (0, .ref h), (1, .int what)]) hx hb dX7_next_91 hl (Nat.le_of_ble_eq_true rfl) rfl (fun ls hl => ?_)
            refine lv_iload hx hb dX7_next_93 (lv_at hl 0 rfl) ?_
            refine lv_iload_n hx hb dX7_next_95 rfl (lv_at hl 4 rfl) ?_
            refine lv_icmp_ge (tgt := 111) hx hb dX7_next_96 rfl (fun c_21 => ?_) (fun c_21 => ?_)
            · refine lv_iinc (v := nI (x2 + 1)) (lv' := [(5, .int (nI (x2 + 1))), (6, .int (if (nI (Wm (n_N 2) (ahx (hAh (hLt n_F) (hHv n_F) (n_N 3)) x1 x2) (n_N 2) (2 ^ (n_N 2) - 1))) < (nI (Wm (n_N 2) (ahx (hAh (hLt n_F) (hHv n_F) (n_N 3)) x2 x1) (n_N 2) (2 ^ (n_N 2) - 1))) then (nI (Wm (n_N 2) (ahx (hAh (hLt n_F) (hHv n_F) (n_N 3)) x2 x1) (n_N 2) (2 ^ (n_N 2) - 1))) else (nI (Wm (n_N 2) (ahx (hAh (hLt n_F) (hHv n_F) (n_N 3)) x1 x2) (n_N 2) (2 ^ (n_N 2) - 1))))), (4, .int (nI x1)), (3, .int be2), (2, .int le2), (0, .ref h), (1, .int what)]) hx hb dX7_next_111 hl (k := 1) rfl (nI_add (x2) 1) (Nat.le_of_ble_eq_true rfl) rfl (fun ls hl => ?_)
              refine lv_goto (tgt := 54) hx hb dX7_next_114 rfl ?_
              exact ih54 (le2, be2, x2 + 1, u_20.1, u_20.2) (by (try dsimp only); exact ⟨by omega, by omega, by rw [A_nb_s hI.1, if_neg (show ¬ (A_nLC (n_N 2) (hAh (hLt n_F) (hHv n_F) (n_N 3))) x1 x2 < (A_nb (A_nLC (n_N 2) (hAh (hLt n_F) (hHv n_F) (n_N 3))) x1 (A_na (A_nLC (n_N 2) (hAh (hLt n_F) (hHv n_F) (n_N 3))) (n_N 2) (nI (Wm (n_N 2) (hAh (hLt n_F) (hHv n_F) (n_N 3)) (n_N 2) (2 ^ n_N 2 - 1)), -4) x1) (x2 - (x1 + 1))).1 by rw [← hI.2.2.1]; exact Int32.not_lt.mpr c_21)]; exact hI.2.2.1, by rw [A_nb_s hI.1, if_neg (show ¬ (A_nLC (n_N 2) (hAh (hLt n_F) (hHv n_F) (n_N 3))) x1 x2 < (A_nb (A_nLC (n_N 2) (hAh (hLt n_F) (hHv n_F) (n_N 3))) x1 (A_na (A_nLC (n_N 2) (hAh (hLt n_F) (hHv n_F) (n_N 3))) (n_N 2) (nI (Wm (n_N 2) (hAh (hLt n_F) (hHv n_F) (n_N 3)) (n_N 2) (2 ^ n_N 2 - 1)), -4) x1) (x2 - (x1 + 1))).1 by rw [← hI.2.2.1]; exact Int32.not_lt.mpr c_21)]; exact hI.2.2.2.1, hw_19.2⟩) (by (try dsimp only); omega) _ _ _ hP hD hS (lv_sub hl [0, 2, 3, 4, 5, 6] rfl)
            · refine lv_iload hx hb dX7_next_99 (lv_at hl 0 rfl) ?_
              refine lv_istore_n (lv' := [(2, .int (if (nI (Wm (n_N 2) (ahx (hAh (hLt n_F) (hHv n_F) (n_N 3)) x1 x2) (n_N 2) (2 ^ (n_N 2) - 1))) < (nI (Wm (n_N 2) (ahx (hAh (hLt n_F) (hHv n_F) (n_N 3)) x2 x1) (n_N 2) (2 ^ (n_N 2) - 1))) then (nI (Wm (n_N 2) (ahx (hAh (hLt n_F) (hHv n_F) (n_N 3)) x2 x1) (n_N 2) (2 ^ (n_N 2) - 1))) else (nI (Wm (n_N 2) (ahx (hAh (hLt n_F) (hHv n_F) (n_N 3)) x1 x2) (n_N 2) (2 ^ (n_N 2) - 1))))), (6, .int (if (nI (Wm (n_N 2) (ahx (hAh (hLt n_F) (hHv n_F) (n_N 3)) x1 x2) (n_N 2) (2 ^ (n_N 2) - 1))) < (nI (Wm (n_N 2) (ahx (hAh (hLt n_F) (hHv n_F) (n_N 3)) x2 x1) (n_N 2) (2 ^ (n_N 2) - 1))) then (nI (Wm (n_N 2) (ahx (hAh (hLt n_F) (hHv n_F) (n_N 3)) x2 x1) (n_N 2) (2 ^ (n_N 2) - 1))) else (nI (Wm (n_N 2) (ahx (hAh (hLt n_F) (hHv n_F) (n_N 3)) x1 x2) (n_N 2) (2 ^ (n_N 2) - 1))))), (5, .int (nI x2)), (4, .int (nI x1)), (3, .int be2), (0, .ref h), (1, .int what)]) hx hb dX7_next_101 rfl hl (Nat.le_of_ble_eq_true rfl) rfl (fun ls hl => ?_)
              refine lv_bipush (v := 10) hx hb dX7_next_102 hkb_10 ?_
              refine lv_iload hx hb dX7_next_104 (lv_at hl 3 rfl) ?_
              refine lv_imul hx hb dX7_next_106 ?_
              refine hs_topi (nI (10 * x1)) (pk_mul (10) (x1)) ?_
              refine lv_iload hx hb dX7_next_107 (lv_at hl 2 rfl) ?_
              refine lv_iadd hx hb dX7_next_109 ?_
              refine hs_topi (nI ((10 * x1) + x2)) (nI_add ((10 * x1)) (x2)) ?_
              refine lv_istore_n (lv' := [(3, .int (nI ((10 * x1) + x2))), (2, .int (if (nI (Wm (n_N 2) (ahx (hAh (hLt n_F) (hHv n_F) (n_N 3)) x1 x2) (n_N 2) (2 ^ (n_N 2) - 1))) < (nI (Wm (n_N 2) (ahx (hAh (hLt n_F) (hHv n_F) (n_N 3)) x2 x1) (n_N 2) (2 ^ (n_N 2) - 1))) then (nI (Wm (n_N 2) (ahx (hAh (hLt n_F) (hHv n_F) (n_N 3)) x2 x1) (n_N 2) (2 ^ (n_N 2) - 1))) else (nI (Wm (n_N 2) (ahx (hAh (hLt n_F) (hHv n_F) (n_N 3)) x1 x2) (n_N 2) (2 ^ (n_N 2) - 1))))), (6, .int (if (nI (Wm (n_N 2) (ahx (hAh (hLt n_F) (hHv n_F) (n_N 3)) x1 x2) (n_N 2) (2 ^ (n_N 2) - 1))) < (nI (Wm (n_N 2) (ahx (hAh (hLt n_F) (hHv n_F) (n_N 3)) x2 x1) (n_N 2) (2 ^ (n_N 2) - 1))) then (nI (Wm (n_N 2) (ahx (hAh (hLt n_F) (hHv n_F) (n_N 3)) x2 x1) (n_N 2) (2 ^ (n_N 2) - 1))) else (nI (Wm (n_N 2) (ahx (hAh (hLt n_F) (hHv n_F) (n_N 3)) x1 x2) (n_N 2) (2 ^ (n_N 2) - 1))))), (5, .int (nI x2)), (4, .int (nI x1)), (0, .ref h), (1, .int what)]) hx hb dX7_next_110 rfl hl (Nat.le_of_ble_eq_true rfl) rfl (fun ls hl => ?_)
              refine lv_iinc (v := nI (x2 + 1)) (lv' := [(5, .int (nI (x2 + 1))), (3, .int (nI ((10 * x1) + x2))), (2, .int (if (nI (Wm (n_N 2) (ahx (hAh (hLt n_F) (hHv n_F) (n_N 3)) x1 x2) (n_N 2) (2 ^ (n_N 2) - 1))) < (nI (Wm (n_N 2) (ahx (hAh (hLt n_F) (hHv n_F) (n_N 3)) x2 x1) (n_N 2) (2 ^ (n_N 2) - 1))) then (nI (Wm (n_N 2) (ahx (hAh (hLt n_F) (hHv n_F) (n_N 3)) x2 x1) (n_N 2) (2 ^ (n_N 2) - 1))) else (nI (Wm (n_N 2) (ahx (hAh (hLt n_F) (hHv n_F) (n_N 3)) x1 x2) (n_N 2) (2 ^ (n_N 2) - 1))))), (6, .int (if (nI (Wm (n_N 2) (ahx (hAh (hLt n_F) (hHv n_F) (n_N 3)) x1 x2) (n_N 2) (2 ^ (n_N 2) - 1))) < (nI (Wm (n_N 2) (ahx (hAh (hLt n_F) (hHv n_F) (n_N 3)) x2 x1) (n_N 2) (2 ^ (n_N 2) - 1))) then (nI (Wm (n_N 2) (ahx (hAh (hLt n_F) (hHv n_F) (n_N 3)) x2 x1) (n_N 2) (2 ^ (n_N 2) - 1))) else (nI (Wm (n_N 2) (ahx (hAh (hLt n_F) (hHv n_F) (n_N 3)) x1 x2) (n_N 2) (2 ^ (n_N 2) - 1))))), (4, .int (nI x1)), (0, .ref h), (1, .int what)]) hx hb dX7_next_111 hl (k := 3) rfl (nI_add (x2) 1) (Nat.le_of_ble_eq_true rfl) rfl (fun ls hl => ?_)
              refine lv_goto (tgt := 54) hx hb dX7_next_114 rfl ?_
              exact ih54 (if (nI (Wm (n_N 2) (ahx (hAh (hLt n_F) (hHv n_F) (n_N 3)) x1 x2) (n_N 2) (2 ^ (n_N 2) - 1))) < (nI (Wm (n_N 2) (ahx (hAh (hLt n_F) (hHv n_F) (n_N 3)) x2 x1) (n_N 2) (2 ^ (n_N 2) - 1))) then (nI (Wm (n_N 2) (ahx (hAh (hLt n_F) (hHv n_F) (n_N 3)) x2 x1) (n_N 2) (2 ^ (n_N 2) - 1))) else (nI (Wm (n_N 2) (ahx (hAh (hLt n_F) (hHv n_F) (n_N 3)) x1 x2) (n_N 2) (2 ^ (n_N 2) - 1))), nI ((10 * x1) + x2), x2 + 1, u_20.1, u_20.2) (by (try dsimp only); exact ⟨by omega, by omega, by rw [A_nb_s hI.1, if_pos (show (A_nLC (n_N 2) (hAh (hLt n_F) (hHv n_F) (n_N 3))) x1 x2 < (A_nb (A_nLC (n_N 2) (hAh (hLt n_F) (hHv n_F) (n_N 3))) x1 (A_na (A_nLC (n_N 2) (hAh (hLt n_F) (hHv n_F) (n_N 3))) (n_N 2) (nI (Wm (n_N 2) (hAh (hLt n_F) (hHv n_F) (n_N 3)) (n_N 2) (2 ^ n_N 2 - 1)), -4) x1) (x2 - (x1 + 1))).1 by rw [← hI.2.2.1]; exact Int32.not_le.mp c_21)]; (try rfl), by rw [A_nb_s hI.1, if_pos (show (A_nLC (n_N 2) (hAh (hLt n_F) (hHv n_F) (n_N 3))) x1 x2 < (A_nb (A_nLC (n_N 2) (hAh (hLt n_F) (hHv n_F) (n_N 3))) x1 (A_na (A_nLC (n_N 2) (hAh (hLt n_F) (hHv n_F) (n_N 3))) (n_N 2) (nI (Wm (n_N 2) (hAh (hLt n_F) (hHv n_F) (n_N 3)) (n_N 2) (2 ^ n_N 2 - 1)), -4) x1) (x2 - (x1 + 1))).1 by rw [← hI.2.2.1]; exact Int32.not_le.mp c_21)]; (try rfl), hw_19.2⟩) (by (try dsimp only); omega) _ _ _ hP hD hS (lv_sub hl [0, 4, 1, 2, 5, 6] rfl)
        · (try dsimp only); exact ⟨Nat.le_refl _, by omega, by rw [Nat.sub_self]; exact hI.2.1, by rw [Nat.sub_self]; exact hI.2.2.1, hI.2.2.2⟩
    · (try dsimp only); exact ⟨Nat.zero_le _, rfl, rfl, hw_6⟩
  · refine lv_iconst (v := (-1)) hx hb dX7_next_9 hki_m1 ?_
    exact hs_iret hx hb hr hlocks hK hP hD hS (q_z, af, wf) [0, 1, 2, 3, 4, 5, 6, 7, 8, 9, 10, 11] rfl (hs_upnd rfl) dX7_next_10 ((by rw [A_nxC, if_neg (by rw [hs_n0 c_4]; decide)]))

set_option maxHeartbeats 4000000 in
set_option maxRecDepth 100000 in
theorem gqf_next (l : Launch) (D : va_G) (k : Nat → ClassId) (sz : Nat) (mo : Nat) (mo_st : Nat) (mo_at : Nat) (mo_isKept : Nat) (mo_pe : Nat) (mo_hm : Nat) (mo_draft : Nat) (mo_dp : Nat) (mo_dh : Nat) (mo_toldLines : Int32) (mo_highest : Int32) (mo_tape : Nat) (mo_tl : Nat) (mo_ps : Nat) (mo_fr : Nat) (mo_sort : Int32) (mo_value : Int32) (mo_ft : Nat) (mo_wrongAt : Int32) (mo_row : Nat) (mo_orderMany : Int32) (mo_fo : Nat) (mo_lightest : Int32) (mo_heaviest : Int32) (mo_before : Nat) (mo_justSum : Int64) (mo_toldSum : Int64) (mo_allWays : Int64) (mo_lanes : Nat) (mo_sizes : Nat) (mo_cells : Nat) (mo_torn : Int32) (mo_had : Nat) (sf : Nat → Int32) (c0 : Nat) (c3 : Nat) (c4 : Nat) (fi : Nat) (af : Nat → Int32) (rf : Nat → Int32) (bf : Nat → Int32) (lt : Nat → Nat) (hv : Nat → Nat) (what : Int32) (e0 : sf 0 = nI c0) (h0 : c0 ≤ 8) (h02 : 2 ≤ c0) (e3 : sf 16 = nI c3) (h3 : c3 ≤ 8) (e4 : sf 25 = nI c4) (h4 : c4 ≤ 6) (hpe : mo_pe ≤ 4) (hm2 : 2 ≤ mo_hm) (hm5 : mo_hm ≤ 5) (ef : sf 14 = nI fi) (hfi : fi ≤ 99) (hsaw : ∀ i, i < c4 → vp_in (sf (26 + 3 * i)) 4) (hpr : ∀ k, k < c3 → (sf (17 + k) = nI (10 * lt k + hv k) ∧ lt k < mo_hm ∧ hv k < mo_hm)) : MI l yX8_next wsX8_next ({ frames := 3, cells := 0, slots := 0, locals := 71 }) D k [.ref mo, .int what] [oq7 mo mo_st mo_at mo_isKept (nI mo_pe) (nI mo_hm) mo_draft (nI mo_dp) (nI mo_dh) mo_toldLines mo_highest mo_tape (nI mo_tl) (nI mo_ps) (nI mo_fr) mo_sort mo_value (nI mo_ft) mo_wrongAt mo_row mo_orderMany (nI mo_fo) mo_lightest mo_heaviest mo_before mo_justSum mo_toldSum mo_allWays mo_lanes mo_sizes mo_cells mo_torn mo_had, oqI k mo_st 132 (sf), oqI k mo_at 44 (af), oqI k mo_row 5 (rf), oqI k mo_before 25 (bf)] sz (fun (r : Int32) (u : (Nat → Int32) × (Int32 × Nat × Int32 × Int32) × (Nat → Int32) × (Nat → Int32)) => r = A_nxM mo_hm c3 lt hv what) (fun (u : (Nat → Int32) × (Int32 × Nat × Int32 × Int32) × (Nat → Int32) × (Nat → Int32)) => [oq7 mo mo_st mo_at mo_isKept (nI mo_pe) (nI mo_hm) mo_draft (nI mo_dp) (nI mo_dh) mo_toldLines mo_highest mo_tape (nI mo_tl) (nI mo_ps) (nI mo_fr) mo_sort mo_value (nI mo_ft) mo_wrongAt mo_row u.2.1.1 (nI (u.2.1.2.1)) u.2.1.2.2.1 u.2.1.2.2.2 mo_before mo_justSum mo_toldSum mo_allWays mo_lanes mo_sizes mo_cells mo_torn mo_had, oqI k mo_st 132 (sf), oqI k mo_at 44 (u.1), oqI k mo_row 5 (u.2.2.1), oqI k mo_before 25 (u.2.2.2)]) := by
  refine Met.ofW (cc := cX8_next) (maxL := 8) (ret := (some .int)) hpn_X8 rfl ?_
  intro p e s m args below meth c s₁ B hml hv
  obtain ⟨rfl, hsz, hP, hK, hD0, hN⟩ := hv
  have hx := B.exec
  have hb := B.bytes
  have hr := B.returns
  have hlocks := B.notSynchronized
  have hts := atoms_spec (ws := wsX8_next) B.pre
  have hown := findClass_of_methodNamed B.named
  have hown : s.vm.findClass RX8 = some m.cls := hown
  have hiX8 : ∀ w ∈ u_ws RX8 TX8 32, w ∈ wsX8_next := fun w9 hw9 => List.mem_cons_of_mem _ (igX8 w9 hw9)
  have fl66 := hts (.fieldLink RX8 66 "HalfScalesModel" "halfMany" "I") (List.mem_cons_of_mem _ (hs_inG 4 84 rfl rfl))
  have fl149 := hts (.fieldLink RX8 149 "HalfScalesModel" "orderMany" "I") (List.mem_cons_of_mem _ (hs_inG 4 99 rfl rfl))
  have fl29 := hts (.fieldLink RX8 29 "HalfScalesModel" "before" "[I") (List.mem_cons_of_mem _ (hs_inG 4 103 rfl rfl))
  subst hsz
  have hD := hD0.self (sz := s.heap.size)
  generalize hAe : va_A [oq7 mo mo_st mo_at mo_isKept (nI mo_pe) (nI mo_hm) mo_draft (nI mo_dp) (nI mo_dh) mo_toldLines mo_highest mo_tape (nI mo_tl) (nI mo_ps) (nI mo_fr) mo_sort mo_value (nI mo_ft) mo_wrongAt mo_row mo_orderMany (nI mo_fo) mo_lightest mo_heaviest mo_before mo_justSum mo_toldSum mo_allWays mo_lanes mo_sizes mo_cells mo_torn mo_had, oqI k mo_st 132 (sf), oqI k mo_at 44 (af), oqI k mo_row 5 (rf), oqI k mo_before 25 (bf)] s.heap.size = A at hD ⊢
  have hA : ∀ q : Nat, s.heap.size ≤ q → A q := fun q h => by rw [← hAe]; exact Or.inr h
  have hS : va_S A s.heap s.heap [] := va_S.rf
  have hl := lv_entry ([.ref mo, .int what]) (n := 8) (Nat.le_of_ble_eq_true rfl)
  rw [lg_entry_eq]
  generalize (lg_sl ([.ref mo, .int what]) ++ List.replicate (8 - (lg_sl ([.ref mo, .int what])).length) Slot.unset).toArray = ls at hl ⊢
  have hl : lv_has ls 8 [(0, .ref mo), (1, .int what)] := hl
  have hP : va_P D vwCl [oq7 mo mo_st mo_at mo_isKept (nI mo_pe) (nI mo_hm) mo_draft (nI mo_dp) (nI mo_dh) mo_toldLines mo_highest mo_tape (nI mo_tl) (nI mo_ps) (nI mo_fr) mo_sort mo_value (nI mo_ft) mo_wrongAt mo_row mo_orderMany (nI mo_fo) mo_lightest mo_heaviest mo_before mo_justSum mo_toldSum mo_allWays mo_lanes mo_sizes mo_cells mo_torn mo_had, oqI k mo_st 132 (sf), oqI k mo_at 44 (af), oqI k mo_row 5 (rf), oqI k mo_before 25 (bf)] s.heap := hP
  refine lv_iload_n hx hb dX8_next_0 rfl (lv_at hl 1 rfl) ?_
  refine hs_pi (va_runS (As := [.int what]) (rest := []) ⟨hx, hb, hml, hown, hts⟩ (gm_isPart l D k _ what) (va_cwS 1 hts gX8_next_X8_isPart rfl rfl rfl hq_X8_isPart ⟨Nat.le_of_ble_eq_true rfl, Nat.le_of_ble_eq_true rfl⟩) (hs_preS hK hN (hs_subP (w := []) hP [] rfl) (hD.sub (ws' := []) [] rfl rfl)) rfl rfl hl.1 rfl (lv_room (Nat.le_of_ble_eq_true rfl)) dX8_next_1 ⟨Nat.le_of_ble_eq_true rfl, Nat.le_of_ble_eq_true rfl⟩) hP hD hS hA (fun r_1 u_3 H locs hw_2 hP hS => ?_)
  refine hs_topi (hsb (hsin what 0 1)) hw_2 ?_
  refine lv_if_ne (tgt := 9) hx hb dX8_next_4 rfl (fun c_4 => ?_) (fun c_4 => ?_)
  · refine lv_aload_n hx hb dX8_next_9 rfl (lv_at hl 0 rfl) ?_
    refine hs_cvM (va_runV (As := []) (rest := []) ⟨hx, hb, hml, hown, hts⟩ (gm_starts l D k _ mo mo_st mo_at mo_isKept mo_pe mo_hm mo_draft mo_dp mo_dh mo_toldLines mo_highest mo_tape mo_tl mo_ps mo_fr mo_sort mo_value mo_ft mo_wrongAt mo_row mo_orderMany mo_fo mo_lightest mo_heaviest mo_before mo_justSum mo_toldSum mo_allWays mo_lanes mo_sizes mo_cells mo_torn mo_had sf af) (cwV 0 hts gX8_next_X8_starts rfl rfl rfl ⟨rfl, hq_X8_starts⟩ ⟨Nat.le_of_ble_eq_true rfl, Nat.le_of_ble_eq_true rfl⟩) (hs_preV hK hN (hs_subP (w := [_, _, _]) hP [0, 1, 2] rfl) (hD.sub (ws' := [_, _, _]) [0, 1, 2] (hs_upnd rfl) rfl) (ci := 7) (q0 := 0) rfl rfl) rfl rfl hl.1 rfl (lv_room (Nat.le_of_ble_eq_true rfl)) dX8_next_10 ⟨Nat.le_of_ble_eq_true rfl, Nat.le_of_ble_eq_true rfl⟩) hP hD hS hA [false, false, false, true, true] [_, _] [_, _, _] rfl [0, 1, 2] rfl [0, 1, 2] (fun u_7 => [_, _, _]) (fun _ => rfl) (hs_upnd rfl) [false, false, false, true, true] (fun u_7 => [_, _, _, _, _]) (fun _ => rfl) (fun u_7 H locs hw_6 hP hD hS => ?_)
    have hw_6 : ∀ j, j < 44 → u_7 j = sf j := hw_6
    have e0a : u_7 0 = nI c0 := (hw_6 0 (by decide)).trans e0
    have e3a : u_7 16 = nI c3 := (hw_6 16 (by decide)).trans e3
    have e4a : u_7 25 = nI c4 := (hw_6 25 (by decide)).trans e4
    have hw_6 : ∀ j, j < 44 → u_7 j = sf j := hw_6
    refine lv_aload_n hx hb dX8_next_13 rfl (lv_at hl 0 rfl) ?_
    refine lv_aload_n hx hb dX8_next_14 rfl (lv_at hl 0 rfl) ?_
    refine va_get (D := D) (ci := 7) (v := .int (nI mo_hm)) (C := RX8) (T := TX8) (N := 32) hx hb hts hiX8 hown hK hP 0 rfl rfl 4 (Nat.le_of_ble_eq_true rfl) fl66 (fun _ h9 => h9) rfl dX8_next_15 ?_
    refine hs_cvM (va_runV (As := [.int (nI mo_hm)]) (rest := []) ⟨hx, hb, hml, hown, hts⟩ (gr_findOrders l D k _ mo mo_st mo_at mo_isKept mo_pe mo_hm mo_draft mo_dp mo_dh mo_toldLines mo_highest mo_tape mo_tl mo_ps mo_fr mo_sort mo_value mo_ft mo_wrongAt mo_row mo_orderMany mo_fo mo_lightest mo_heaviest mo_before mo_justSum mo_toldSum mo_allWays mo_lanes mo_sizes mo_cells mo_torn mo_had u_7 rf bf mo_hm lt hv c3 hm2 hm5 e3a h3 (fun k hk => ⟨(hw_6 (17 + k) (by omega)).trans (hpr k hk).1, by have h9 := (hpr k hk).2; omega, by have h9 := (hpr k hk).2; omega⟩)) (cwV 1 hts gX8_next_X8_findOrders rfl rfl rfl ⟨rfl, hq_X8_findOrders⟩ ⟨Nat.le_of_ble_eq_true rfl, Nat.le_of_ble_eq_true rfl⟩) (hs_preV hK hN (hs_subP (w := [_, _, _, _]) hP [0, 2, 3, 4] rfl) (hD.sub (ws' := [_, _, _, _]) [0, 2, 3, 4] (hs_upnd rfl) rfl) (ci := 7) (q0 := 0) rfl rfl) rfl rfl hl.1 rfl (lv_room (Nat.le_of_ble_eq_true rfl)) dX8_next_18 ⟨Nat.le_of_ble_eq_true rfl, Nat.le_of_ble_eq_true rfl⟩) hP hD hS hA [false, true, false, false, false] [_] [_, _, _, _] rfl [0, 1, 2, 3] rfl [0, 1, 2, 3] (fun u_10 => [_, _, _, _]) (fun _ => rfl) (hs_upnd rfl) [false, true, false, false, false] (fun u_10 => [_, _, _, _, _]) (fun _ => rfl) (fun u_10 H locs hw_9 hP hD hS => ?_)
    have hw_9 : foI mo_hm lt hv c3 (mo_hm ^ mo_hm) u_10.1.1 u_10.1.2.1 u_10.1.2.2.1 u_10.1.2.2.2 u_10.2.2 ∧ u_10.1.1 ≤ 3125 ∧ u_10.1.2.1 ≤ 3125 ∧ u_10.1.2.2.1 < 32 ∧ u_10.1.2.2.2 < 32 := hw_9
    refine lv_aload_n hx hb dX8_next_21 rfl (lv_at hl 0 rfl) ?_
    refine va_get (D := D) (ci := 7) (v := .int (nI (u_10.1.1))) (C := RX8) (T := TX8) (N := 32) hx hb hts hiX8 hown hK hP 0 rfl rfl 19 (Nat.le_of_ble_eq_true rfl) fl149 (fun _ h9 => h9) rfl dX8_next_22 ?_
    refine lv_istore_n (lv' := [(2, .int (nI (u_10.1.1))), (0, .ref mo), (1, .int what)]) hx hb dX8_next_25 rfl hl (Nat.le_of_ble_eq_true rfl) rfl (fun ls hl => ?_)
    refine lv_bipush (v := (-4)) hx hb dX8_next_26 hkb_m4 ?_
    refine lv_istore_n (lv' := [(3, .int (-4)), (2, .int (nI (u_10.1.1))), (0, .ref mo), (1, .int what)]) hx hb dX8_next_28 rfl hl (Nat.le_of_ble_eq_true rfl) rfl (fun ls hl => ?_)
    refine lv_iconst (v := 0) hx hb dX8_next_29 hki_0 ?_
    refine lv_istore (lv' := [(4, .int 0), (3, .int (-4)), (2, .int (nI (u_10.1.1))), (0, .ref mo), (1, .int what)]) hx hb dX8_next_30 hl (Nat.le_of_ble_eq_true rfl) rfl (fun ls hl => ?_)
    refine hs_while (σ := Int32 × Int32 × Nat) (fun x => x.2.2 ≤ mo_hm ∧ x.1 = (A_na (A_nLM u_10.1.1 mo_hm lt hv c3) mo_hm (nI u_10.1.1, -4) x.2.2).1 ∧ x.2.1 = (A_na (A_nLM u_10.1.1 mo_hm lt hv c3) mo_hm (nI u_10.1.1, -4) x.2.2).2) (fun x => mo_hm - x.2.2) (fun x => [oq7 mo mo_st mo_at mo_isKept (nI mo_pe) (nI mo_hm) mo_draft (nI mo_dp) (nI mo_dh) mo_toldLines mo_highest mo_tape (nI mo_tl) (nI mo_ps) (nI mo_fr) mo_sort mo_value (nI mo_ft) mo_wrongAt mo_row (nI (u_10.1.1)) (nI (u_10.1.2.1)) (nI (u_10.1.2.2.1)) (nI (u_10.1.2.2.2)) mo_before mo_justSum mo_toldSum mo_allWays mo_lanes mo_sizes mo_cells mo_torn mo_had, oqI k mo_st 132 (sf), oqI k mo_at 44 (u_7), oqI k mo_row 5 (u_10.2.1), oqI k mo_before 25 (u_10.2.2)]) (fun x => [(4, .int (nI (x.2.2))), (3, .int (x.2.1)), (2, .int (x.1)), (0, .ref mo), (1, .int what)]) ?_ (nI (u_10.1.1), (-4), 0) ?_ hP hD hS hl
    · intro x hI ih32 H locs ls hP hD hS hl
      obtain ⟨few, fo, x1⟩ := x
      try dsimp only at hI
      have hP : va_P D vwCl [_, _, _, _, _] H := hP
      have hD : va_D A [_, _, _, _, _] := hD
      have hl : lv_has ls 8 [(4, .int (nI x1)), (3, .int fo), (2, .int few), (0, .ref mo), (1, .int what)] := hl
      refine lv_iload hx hb dX8_next_32 (lv_at hl 0 rfl) ?_
      refine lv_aload_n hx hb dX8_next_34 rfl (lv_at hl 3 rfl) ?_
      refine va_get (D := D) (ci := 7) (v := .int (nI mo_hm)) (C := RX8) (T := TX8) (N := 32) hx hb hts hiX8 hown hK hP 0 rfl rfl 4 (Nat.le_of_ble_eq_true rfl) fl66 (fun _ h9 => h9) rfl dX8_next_35 ?_
      refine lv_icmp_ge (tgt := 140) hx hb dX8_next_38 rfl (fun c_11 => ?_) (fun c_11 => ?_)
      · have nc_11 : mo_hm ≤ x1 := (nI_leI (a := mo_hm) (b := x1) (by omega) (by omega)).mp c_11
        have e9 : x1 = mo_hm := by omega
        have h8 := hI.2.1
        have h9 := hI.2.2
        rw [e9, hw_9.1.1] at h8 h9
        refine lv_iload_n hx hb dX8_next_140 rfl (lv_at hl 1 rfl) ?_
        refine lv_bipush (v := (-4)) hx hb dX8_next_141 hkb_m4 ?_
        refine lv_icmp_ne (tgt := 151) hx hb dX8_next_143 rfl (fun c_12 => ?_) (fun c_12 => ?_)
        · refine lv_iload_n hx hb dX8_next_151 rfl (lv_at hl 4 rfl) ?_
          refine lv_if_ne (tgt := 159) hx hb dX8_next_152 rfl (fun c_13 => ?_) (fun c_13 => ?_)
          · refine lv_iload_n hx hb dX8_next_159 rfl (lv_at hl 2 rfl) ?_
            exact hs_iret hx hb hr hlocks hK hP hD hS (u_7, ((nI (u_10.1.1), u_10.1.2.1, nI (u_10.1.2.2.1), nI (u_10.1.2.2.2)), u_10.2.1, u_10.2.2)) [0, 1, 2, 3, 4] rfl (hs_upnd rfl) dX8_next_160 ((by rw [A_nxM, if_pos (hs_nb c_4), A_nxS, if_neg (by rw [← h9]; exact c_12), if_neg c_13, ← h8]))
          · refine lv_iload_n hx hb dX8_next_155 rfl (lv_at hl 1 rfl) ?_
            refine lv_goto (tgt := 160) hx hb dX8_next_156 rfl ?_
            exact hs_iret hx hb hr hlocks hK hP hD hS (u_7, ((nI (u_10.1.1), u_10.1.2.1, nI (u_10.1.2.2.1), nI (u_10.1.2.2.2)), u_10.2.1, u_10.2.2)) [0, 1, 2, 3, 4] rfl (hs_upnd rfl) dX8_next_160 ((by rw [A_nxM, if_pos (hs_nb c_4), A_nxS, if_neg (by rw [← h9]; exact c_12), if_pos c_13, ← h9]))
        · refine lv_bipush (v := (-4)) hx hb dX8_next_146 hkb_m4 ?_
          refine lv_goto (tgt := 160) hx hb dX8_next_148 rfl ?_
          exact hs_iret hx hb hr hlocks hK hP hD hS (u_7, ((nI (u_10.1.1), u_10.1.2.1, nI (u_10.1.2.2.1), nI (u_10.1.2.2.2)), u_10.2.1, u_10.2.2)) [0, 1, 2, 3, 4] rfl (hs_upnd rfl) dX8_next_160 ((by rw [A_nxM, if_pos (hs_nb c_4), A_nxS, if_pos (by rw [← h9]; exact c_12)]))
      · have nc_11 : ¬ mo_hm ≤ x1 := fun hq9 => c_11 ((nI_leI (a := mo_hm) (b := x1) (by omega) (by omega)).mpr hq9)
        refine lv_iload hx hb dX8_next_41 (lv_at hl 0 rfl) ?_
        refine lv_iconst (v := 1) hx hb dX8_next_43 hki_1 ?_
        refine lv_iadd hx hb dX8_next_44 ?_
        refine hs_topi (nI (x1 + 1)) (nI_add (x1) (1)) ?_
        refine lv_istore (lv' := [(5, .int (nI (x1 + 1))), (4, .int (nI x1)), (3, .int fo), (2, .int few), (0, .ref mo), (1, .int what)]) hx hb dX8_next_45 hl (Nat.le_of_ble_eq_true rfl) rfl (fun ls hl => ?_)
        refine hs_while (σ := Int32 × Int32 × Nat) (fun x => x1 + 1 ≤ x.2.2 ∧ x.2.2 ≤ mo_hm ∧ x.1 = (A_nb (A_nLM u_10.1.1 mo_hm lt hv c3) x1 (A_na (A_nLM u_10.1.1 mo_hm lt hv c3) mo_hm (nI u_10.1.1, -4) x1) (x.2.2 - (x1 + 1))).1 ∧ x.2.1 = (A_nb (A_nLM u_10.1.1 mo_hm lt hv c3) x1 (A_na (A_nLM u_10.1.1 mo_hm lt hv c3) mo_hm (nI u_10.1.1, -4) x1) (x.2.2 - (x1 + 1))).2) (fun x => mo_hm - x.2.2) (fun x => [oq7 mo mo_st mo_at mo_isKept (nI mo_pe) (nI mo_hm) mo_draft (nI mo_dp) (nI mo_dh) mo_toldLines mo_highest mo_tape (nI mo_tl) (nI mo_ps) (nI mo_fr) mo_sort mo_value (nI mo_ft) mo_wrongAt mo_row (nI (u_10.1.1)) (nI (u_10.1.2.1)) (nI (u_10.1.2.2.1)) (nI (u_10.1.2.2.2)) mo_before mo_justSum mo_toldSum mo_allWays mo_lanes mo_sizes mo_cells mo_torn mo_had, oqI k mo_st 132 (sf), oqI k mo_at 44 (u_7), oqI k mo_row 5 (u_10.2.1), oqI k mo_before 25 (u_10.2.2)]) (fun x => [(5, .int (nI (x.2.2))), (4, .int (nI x1)), (3, .int (x.2.1)), (2, .int (x.1)), (0, .ref mo), (1, .int what)]) ?_ (few, fo, x1 + 1) ?_ hP hD hS hl
        · intro x hI ih47 H locs ls hP hD hS hl
          obtain ⟨few2, fo2, x2⟩ := x
          try dsimp only at hI
          have hP : va_P D vwCl [_, _, _, _, _] H := hP
          have hD : va_D A [_, _, _, _, _] := hD
          have hl : lv_has ls 8 [(5, .int (nI x2)), (4, .int (nI x1)), (3, .int fo2), (2, .int few2), (0, .ref mo), (1, .int what)] := hl
          refine lv_iload hx hb dX8_next_47 (lv_at hl 0 rfl) ?_
          refine lv_aload_n hx hb dX8_next_49 rfl (lv_at hl 4 rfl) ?_
          refine va_get (D := D) (ci := 7) (v := .int (nI mo_hm)) (C := RX8) (T := TX8) (N := 32) hx hb hts hiX8 hown hK hP 0 rfl rfl 4 (Nat.le_of_ble_eq_true rfl) fl66 (fun _ h9 => h9) rfl dX8_next_50 ?_
          refine lv_icmp_ge (tgt := 134) hx hb dX8_next_53 rfl (fun c_14 => ?_) (fun c_14 => ?_)
          · have nc_14 : mo_hm ≤ x2 := (nI_leI (a := mo_hm) (b := x2) (by omega) (by omega)).mp c_14
            refine lv_iinc (v := nI (x1 + 1)) (lv' := [(4, .int (nI (x1 + 1))), (5, .int (nI x2)), (3, .int fo2), (2, .int few2), (0, .ref mo), (1, .int what)]) hx hb dX8_next_134 hl (k := 1) rfl (nI_add (x1) 1) (Nat.le_of_ble_eq_true rfl) rfl (fun ls hl => ?_)
            refine lv_goto (tgt := 32) hx hb dX8_next_137 rfl ?_
            exact ih32 (few2, fo2, x1 + 1) (by (try dsimp only); exact ⟨by omega, by rw [A_na, hI.2.2.1, show x2 = mo_hm by omega], by rw [A_na, hI.2.2.2, show x2 = mo_hm by omega]⟩) (by (try dsimp only); omega) _ _ _ hP hD hS (lv_sub hl [0, 2, 3, 4, 5] rfl)
          · have nc_14 : ¬ mo_hm ≤ x2 := fun hq9 => c_14 ((nI_leI (a := mo_hm) (b := x2) (by omega) (by omega)).mpr hq9)
            refine lv_aload_n hx hb dX8_next_56 rfl (lv_at hl 4 rfl) ?_
            refine va_get (D := D) (ci := 7) (v := .ref mo_before) (C := RX8) (T := TX8) (N := 32) hx hb hts hiX8 hown hK hP 0 rfl rfl 23 (Nat.le_of_ble_eq_true rfl) fl29 (fun _ h9 => h9) rfl dX8_next_57 ?_
            refine lv_iconst (v := 5) hx hb dX8_next_60 hki_5 ?_
            refine lv_iload hx hb dX8_next_61 (lv_at hl 1 rfl) ?_
            refine lv_imul hx hb dX8_next_63 ?_
            refine hs_topi (nI (5 * x1)) (pk_mul (5) (x1)) ?_
            refine lv_iload hx hb dX8_next_64 (lv_at hl 0 rfl) ?_
            refine lv_iadd hx hb dX8_next_66 ?_
            refine hs_topi (nI ((5 * x1) + x2)) (nI_add ((5 * x1)) (x2)) ?_
            refine va_iald hx hb hK hP 4 0 rfl rfl (vp_in_nI (show ((5 * x1) + x2) < 25 by omega) (by decide)) dX8_next_67 ?_
            refine hs_topi (nI (cntB (gaB mo_hm lt hv c3 x1 x2) (mo_hm ^ mo_hm))) (by rw [nI_clamp (by omega)]; exact hw_9.1.2.2.2.2 x1 x2 (by omega) (by omega)) ?_
            refine lv_istore (lv' := [(6, .int (nI (cntB (gaB mo_hm lt hv c3 x1 x2) (mo_hm ^ mo_hm)))), (5, .int (nI x2)), (4, .int (nI x1)), (3, .int fo2), (2, .int few2), (0, .ref mo), (1, .int what)]) hx hb dX8_next_68 hl (Nat.le_of_ble_eq_true rfl) rfl (fun ls hl => ?_)
            refine lv_iload hx hb dX8_next_70 (lv_at hl 0 rfl) ?_
            refine lv_aload_n hx hb dX8_next_72 rfl (lv_at hl 5 rfl) ?_
            refine va_get (D := D) (ci := 7) (v := .int (nI (u_10.1.1))) (C := RX8) (T := TX8) (N := 32) hx hb hts hiX8 hown hK hP 0 rfl rfl 19 (Nat.le_of_ble_eq_true rfl) fl149 (fun _ h9 => h9) rfl dX8_next_73 ?_
            refine lv_iload hx hb dX8_next_76 (lv_at hl 0 rfl) ?_
            refine lv_isub hx hb dX8_next_78 ?_
            refine lv_icmp_le (tgt := 87) hx hb dX8_next_79 rfl (fun c_15 => ?_) (fun c_15 => ?_)
            · refine lv_aload_n hx hb dX8_next_87 rfl (lv_at hl 5 rfl) ?_
              refine va_get (D := D) (ci := 7) (v := .int (nI (u_10.1.1))) (C := RX8) (T := TX8) (N := 32) hx hb hts hiX8 hown hK hP 0 rfl rfl 19 (Nat.le_of_ble_eq_true rfl) fl149 (fun _ h9 => h9) rfl dX8_next_88 ?_
              refine lv_iload hx hb dX8_next_91 (lv_at hl 0 rfl) ?_
              refine lv_isub hx hb dX8_next_93 ?_
              refine lv_istore (lv' := [(7, .int ((nI (u_10.1.1)) - (nI (cntB (gaB mo_hm lt hv c3 x1 x2) (mo_hm ^ mo_hm))))), (6, .int (nI (cntB (gaB mo_hm lt hv c3 x1 x2) (mo_hm ^ mo_hm)))), (5, .int (nI x2)), (4, .int (nI x1)), (3, .int fo2), (2, .int few2), (0, .ref mo), (1, .int what)]) hx hb dX8_next_94 hl (Nat.le_of_ble_eq_true rfl) rfl (fun ls hl => ?_)
              refine lv_iload hx hb dX8_next_96 (lv_at hl 0 rfl) ?_
              refine lv_iload_n hx hb dX8_next_98 rfl (lv_at hl 5 rfl) ?_
              refine lv_icmp_ge (tgt := 113) hx hb dX8_next_99 rfl (fun c_16 => ?_) (fun c_16 => ?_)
              · refine lv_iload_n hx hb dX8_next_113 rfl (lv_at hl 4 rfl) ?_
                refine lv_istore_n (lv' := [(3, .int fo2), (7, .int ((nI (u_10.1.1)) - (nI (cntB (gaB mo_hm lt hv c3 x1 x2) (mo_hm ^ mo_hm))))), (6, .int (nI (cntB (gaB mo_hm lt hv c3 x1 x2) (mo_hm ^ mo_hm)))), (5, .int (nI x2)), (4, .int (nI x1)), (2, .int few2), (0, .ref mo), (1, .int what)]) hx hb dX8_next_114 rfl hl (Nat.le_of_ble_eq_true rfl) rfl (fun ls hl => ?_)
                refine lv_iload hx hb dX8_next_115 (lv_at hl 1 rfl) ?_
                refine lv_iload_n hx hb dX8_next_117 rfl (lv_at hl 5 rfl) ?_
                refine lv_icmp_ge (tgt := 126) hx hb dX8_next_118 rfl (fun c_17 => ?_) (fun c_17 => ?_)
                · refine lv_iload_n hx hb dX8_next_126 rfl (lv_at hl 5 rfl) ?_
                  refine lv_istore_n (lv' := [(2, .int few2), (3, .int fo2), (7, .int ((nI (u_10.1.1)) - (nI (cntB (gaB mo_hm lt hv c3 x1 x2) (mo_hm ^ mo_hm))))), (6, .int (nI (cntB (gaB mo_hm lt hv c3 x1 x2) (mo_hm ^ mo_hm)))), (5, .int (nI x2)), (4, .int (nI x1)), (0, .ref mo), (1, .int what)]) hx hb dX8_next_127 rfl hl (Nat.le_of_ble_eq_true rfl) rfl (fun ls hl => ?_)
                  refine lv_iinc (v := nI (x2 + 1)) (lv' := [(5, .int (nI (x2 + 1))), (2, .int few2), (3, .int fo2), (7, .int ((nI (u_10.1.1)) - (nI (cntB (gaB mo_hm lt hv c3 x1 x2) (mo_hm ^ mo_hm))))), (6, .int (nI (cntB (gaB mo_hm lt hv c3 x1 x2) (mo_hm ^ mo_hm)))), (4, .int (nI x1)), (0, .ref mo), (1, .int what)]) hx hb dX8_next_128 hl (k := 4) rfl (nI_add (x2) 1) (Nat.le_of_ble_eq_true rfl) rfl (fun ls hl => ?_)
                  refine lv_goto (tgt := 47) hx hb dX8_next_131 rfl ?_
                  exact ih47 (few2, fo2, x2 + 1) (by (try dsimp only); have eL : (A_nLM u_10.1.1 mo_hm lt hv c3) x1 x2 = _ := if_pos c_15; exact ⟨by omega, by omega, by rw [A_nb_s hI.1, if_neg (show ¬ (A_nLM u_10.1.1 mo_hm lt hv c3) x1 x2 < (A_nb (A_nLM u_10.1.1 mo_hm lt hv c3) x1 (A_na (A_nLM u_10.1.1 mo_hm lt hv c3) mo_hm (nI u_10.1.1, -4) x1) (x2 - (x1 + 1))).1 by rw [← hI.2.2.1, eL]; exact Int32.not_lt.mpr c_16)]; exact hI.2.2.1, by rw [A_nb_s hI.1, if_neg (show ¬ (A_nLM u_10.1.1 mo_hm lt hv c3) x1 x2 < (A_nb (A_nLM u_10.1.1 mo_hm lt hv c3) x1 (A_na (A_nLM u_10.1.1 mo_hm lt hv c3) mo_hm (nI u_10.1.1, -4) x1) (x2 - (x1 + 1))).1 by rw [← hI.2.2.1, eL]; exact Int32.not_lt.mpr c_16)]; exact hI.2.2.2⟩) (by (try dsimp only); omega) _ _ _ hP hD hS (lv_sub hl [0, 5, 2, 1, 6, 7] rfl)
                · refine lv_iload hx hb dX8_next_121 (lv_at hl 1 rfl) ?_
                  refine lv_goto (tgt := 127) hx hb dX8_next_123 rfl ?_
                  refine lv_istore_n (lv' := [(2, .int ((nI (u_10.1.1)) - (nI (cntB (gaB mo_hm lt hv c3 x1 x2) (mo_hm ^ mo_hm))))), (3, .int fo2), (7, .int ((nI (u_10.1.1)) - (nI (cntB (gaB mo_hm lt hv c3 x1 x2) (mo_hm ^ mo_hm))))), (6, .int (nI (cntB (gaB mo_hm lt hv c3 x1 x2) (mo_hm ^ mo_hm)))), (5, .int (nI x2)), (4, .int (nI x1)), (0, .ref mo), (1, .int what)]) hx hb dX8_next_127 rfl hl (Nat.le_of_ble_eq_true rfl) rfl (fun ls hl => ?_)
                  refine lv_iinc (v := nI (x2 + 1)) (lv' := [(5, .int (nI (x2 + 1))), (2, .int ((nI (u_10.1.1)) - (nI (cntB (gaB mo_hm lt hv c3 x1 x2) (mo_hm ^ mo_hm))))), (3, .int fo2), (7, .int ((nI (u_10.1.1)) - (nI (cntB (gaB mo_hm lt hv c3 x1 x2) (mo_hm ^ mo_hm))))), (6, .int (nI (cntB (gaB mo_hm lt hv c3 x1 x2) (mo_hm ^ mo_hm)))), (4, .int (nI x1)), (0, .ref mo), (1, .int what)]) hx hb dX8_next_128 hl (k := 4) rfl (nI_add (x2) 1) (Nat.le_of_ble_eq_true rfl) rfl (fun ls hl => ?_)
                  refine lv_goto (tgt := 47) hx hb dX8_next_131 rfl ?_
                  exact ih47 ((nI (u_10.1.1)) - (nI (cntB (gaB mo_hm lt hv c3 x1 x2) (mo_hm ^ mo_hm))), fo2, x2 + 1) (by (try dsimp only); exact absurd c_16 c_17) (by (try dsimp only); omega) _ _ _ hP hD hS (lv_sub hl [0, 5, 2, 1, 6, 7] rfl)
              · refine lv_bipush (v := 10) hx hb dX8_next_102 hkb_10 ?_
                refine lv_iload hx hb dX8_next_104 (lv_at hl 3 rfl) ?_
                refine lv_imul hx hb dX8_next_106 ?_
                refine hs_topi (nI (10 * x1)) (pk_mul (10) (x1)) ?_
                refine lv_iload hx hb dX8_next_107 (lv_at hl 2 rfl) ?_
                refine lv_iadd hx hb dX8_next_109 ?_
                refine hs_topi (nI ((10 * x1) + x2)) (nI_add ((10 * x1)) (x2)) ?_
                refine lv_goto (tgt := 114) hx hb dX8_next_110 rfl ?_
                refine lv_istore_n (lv' := [(3, .int (nI ((10 * x1) + x2))), (7, .int ((nI (u_10.1.1)) - (nI (cntB (gaB mo_hm lt hv c3 x1 x2) (mo_hm ^ mo_hm))))), (6, .int (nI (cntB (gaB mo_hm lt hv c3 x1 x2) (mo_hm ^ mo_hm)))), (5, .int (nI x2)), (4, .int (nI x1)), (2, .int few2), (0, .ref mo), (1, .int what)]) hx hb dX8_next_114 rfl hl (Nat.le_of_ble_eq_true rfl) rfl (fun ls hl => ?_)
                refine lv_iload hx hb dX8_next_115 (lv_at hl 1 rfl) ?_
                refine lv_iload_n hx hb dX8_next_117 rfl (lv_at hl 5 rfl) ?_
                refine lv_icmp_ge (tgt := 126) hx hb dX8_next_118 rfl (fun c_18 => ?_) (fun c_18 => ?_)
                · refine lv_iload_n hx hb dX8_next_126 rfl (lv_at hl 5 rfl) ?_
                  refine lv_istore_n (lv' := [(2, .int few2), (3, .int (nI ((10 * x1) + x2))), (7, .int ((nI (u_10.1.1)) - (nI (cntB (gaB mo_hm lt hv c3 x1 x2) (mo_hm ^ mo_hm))))), (6, .int (nI (cntB (gaB mo_hm lt hv c3 x1 x2) (mo_hm ^ mo_hm)))), (5, .int (nI x2)), (4, .int (nI x1)), (0, .ref mo), (1, .int what)]) hx hb dX8_next_127 rfl hl (Nat.le_of_ble_eq_true rfl) rfl (fun ls hl => ?_)
                  refine lv_iinc (v := nI (x2 + 1)) (lv' := [(5, .int (nI (x2 + 1))), (2, .int few2), (3, .int (nI ((10 * x1) + x2))), (7, .int ((nI (u_10.1.1)) - (nI (cntB (gaB mo_hm lt hv c3 x1 x2) (mo_hm ^ mo_hm))))), (6, .int (nI (cntB (gaB mo_hm lt hv c3 x1 x2) (mo_hm ^ mo_hm)))), (4, .int (nI x1)), (0, .ref mo), (1, .int what)]) hx hb dX8_next_128 hl (k := 4) rfl (nI_add (x2) 1) (Nat.le_of_ble_eq_true rfl) rfl (fun ls hl => ?_)
                  refine lv_goto (tgt := 47) hx hb dX8_next_131 rfl ?_
                  exact ih47 (few2, nI ((10 * x1) + x2), x2 + 1) (by (try dsimp only); exact absurd c_18 c_16) (by (try dsimp only); omega) _ _ _ hP hD hS (lv_sub hl [0, 5, 2, 1, 6, 7] rfl)
                · refine lv_iload hx hb dX8_next_121 (lv_at hl 1 rfl) ?_
                  refine lv_goto (tgt := 127) hx hb dX8_next_123 rfl ?_
                  refine lv_istore_n (lv' := [(2, .int ((nI (u_10.1.1)) - (nI (cntB (gaB mo_hm lt hv c3 x1 x2) (mo_hm ^ mo_hm))))), (3, .int (nI ((10 * x1) + x2))), (7, .int ((nI (u_10.1.1)) - (nI (cntB (gaB mo_hm lt hv c3 x1 x2) (mo_hm ^ mo_hm))))), (6, .int (nI (cntB (gaB mo_hm lt hv c3 x1 x2) (mo_hm ^ mo_hm)))), (5, .int (nI x2)), (4, .int (nI x1)), (0, .ref mo), (1, .int what)]) hx hb dX8_next_127 rfl hl (Nat.le_of_ble_eq_true rfl) rfl (fun ls hl => ?_)
                  refine lv_iinc (v := nI (x2 + 1)) (lv' := [(5, .int (nI (x2 + 1))), (2, .int ((nI (u_10.1.1)) - (nI (cntB (gaB mo_hm lt hv c3 x1 x2) (mo_hm ^ mo_hm))))), (3, .int (nI ((10 * x1) + x2))), (7, .int ((nI (u_10.1.1)) - (nI (cntB (gaB mo_hm lt hv c3 x1 x2) (mo_hm ^ mo_hm))))), (6, .int (nI (cntB (gaB mo_hm lt hv c3 x1 x2) (mo_hm ^ mo_hm)))), (4, .int (nI x1)), (0, .ref mo), (1, .int what)]) hx hb dX8_next_128 hl (k := 4) rfl (nI_add (x2) 1) (Nat.le_of_ble_eq_true rfl) rfl (fun ls hl => ?_)
                  refine lv_goto (tgt := 47) hx hb dX8_next_131 rfl ?_
                  exact ih47 ((nI (u_10.1.1)) - (nI (cntB (gaB mo_hm lt hv c3 x1 x2) (mo_hm ^ mo_hm))), nI ((10 * x1) + x2), x2 + 1) (by (try dsimp only); have eL : (A_nLM u_10.1.1 mo_hm lt hv c3) x1 x2 = _ := if_pos c_15; exact ⟨by omega, by omega, by rw [A_nb_s hI.1, if_pos (show (A_nLM u_10.1.1 mo_hm lt hv c3) x1 x2 < (A_nb (A_nLM u_10.1.1 mo_hm lt hv c3) x1 (A_na (A_nLM u_10.1.1 mo_hm lt hv c3) mo_hm (nI u_10.1.1, -4) x1) (x2 - (x1 + 1))).1 by rw [← hI.2.2.1, eL]; exact Int32.not_le.mp c_16)]; exact eL.symm, by rw [A_nb_s hI.1, if_pos (show (A_nLM u_10.1.1 mo_hm lt hv c3) x1 x2 < (A_nb (A_nLM u_10.1.1 mo_hm lt hv c3) x1 (A_na (A_nLM u_10.1.1 mo_hm lt hv c3) mo_hm (nI u_10.1.1, -4) x1) (x2 - (x1 + 1))).1 by rw [← hI.2.2.1, eL]; exact Int32.not_le.mp c_16)]; (try rfl)⟩) (by (try dsimp only); omega) _ _ _ hP hD hS (lv_sub hl [0, 5, 2, 1, 6, 7] rfl)
            · refine lv_iload hx hb dX8_next_82 (lv_at hl 0 rfl) ?_
              refine lv_goto (tgt := 94) hx hb dX8_next_84 rfl ?_
              refine lv_istore (lv' := [(7, .int (nI (cntB (gaB mo_hm lt hv c3 x1 x2) (mo_hm ^ mo_hm)))), (6, .int (nI (cntB (gaB mo_hm lt hv c3 x1 x2) (mo_hm ^ mo_hm)))), (5, .int (nI x2)), (4, .int (nI x1)), (3, .int fo2), (2, .int few2), (0, .ref mo), (1, .int what)]) hx hb dX8_next_94 hl (Nat.le_of_ble_eq_true rfl) rfl (fun ls hl => ?_)
              refine lv_iload hx hb dX8_next_96 (lv_at hl 0 rfl) ?_
              refine lv_iload_n hx hb dX8_next_98 rfl (lv_at hl 5 rfl) ?_
              refine lv_icmp_ge (tgt := 113) hx hb dX8_next_99 rfl (fun c_19 => ?_) (fun c_19 => ?_)
              · refine lv_iload_n hx hb dX8_next_113 rfl (lv_at hl 4 rfl) ?_
                refine lv_istore_n (lv' := [(3, .int fo2), (7, .int (nI (cntB (gaB mo_hm lt hv c3 x1 x2) (mo_hm ^ mo_hm)))), (6, .int (nI (cntB (gaB mo_hm lt hv c3 x1 x2) (mo_hm ^ mo_hm)))), (5, .int (nI x2)), (4, .int (nI x1)), (2, .int few2), (0, .ref mo), (1, .int what)]) hx hb dX8_next_114 rfl hl (Nat.le_of_ble_eq_true rfl) rfl (fun ls hl => ?_)
                refine lv_iload hx hb dX8_next_115 (lv_at hl 1 rfl) ?_
                refine lv_iload_n hx hb dX8_next_117 rfl (lv_at hl 5 rfl) ?_
                refine lv_icmp_ge (tgt := 126) hx hb dX8_next_118 rfl (fun c_20 => ?_) (fun c_20 => ?_)
                · refine lv_iload_n hx hb dX8_next_126 rfl (lv_at hl 5 rfl) ?_
                  refine lv_istore_n (lv' := [(2, .int few2), (3, .int fo2), (7, .int (nI (cntB (gaB mo_hm lt hv c3 x1 x2) (mo_hm ^ mo_hm)))), (6, .int (nI (cntB (gaB mo_hm lt hv c3 x1 x2) (mo_hm ^ mo_hm)))), (5, .int (nI x2)), (4, .int (nI x1)), (0, .ref mo), (1, .int what)]) hx hb dX8_next_127 rfl hl (Nat.le_of_ble_eq_true rfl) rfl (fun ls hl => ?_)
                  refine lv_iinc (v := nI (x2 + 1)) (lv' := [(5, .int (nI (x2 + 1))), (2, .int few2), (3, .int fo2), (7, .int (nI (cntB (gaB mo_hm lt hv c3 x1 x2) (mo_hm ^ mo_hm)))), (6, .int (nI (cntB (gaB mo_hm lt hv c3 x1 x2) (mo_hm ^ mo_hm)))), (4, .int (nI x1)), (0, .ref mo), (1, .int what)]) hx hb dX8_next_128 hl (k := 4) rfl (nI_add (x2) 1) (Nat.le_of_ble_eq_true rfl) rfl (fun ls hl => ?_)
                  refine lv_goto (tgt := 47) hx hb dX8_next_131 rfl ?_
                  exact ih47 (few2, fo2, x2 + 1) (by (try dsimp only); have eL : (A_nLM u_10.1.1 mo_hm lt hv c3) x1 x2 = _ := if_neg c_15; exact ⟨by omega, by omega, by rw [A_nb_s hI.1, if_neg (show ¬ (A_nLM u_10.1.1 mo_hm lt hv c3) x1 x2 < (A_nb (A_nLM u_10.1.1 mo_hm lt hv c3) x1 (A_na (A_nLM u_10.1.1 mo_hm lt hv c3) mo_hm (nI u_10.1.1, -4) x1) (x2 - (x1 + 1))).1 by rw [← hI.2.2.1, eL]; exact Int32.not_lt.mpr c_19)]; exact hI.2.2.1, by rw [A_nb_s hI.1, if_neg (show ¬ (A_nLM u_10.1.1 mo_hm lt hv c3) x1 x2 < (A_nb (A_nLM u_10.1.1 mo_hm lt hv c3) x1 (A_na (A_nLM u_10.1.1 mo_hm lt hv c3) mo_hm (nI u_10.1.1, -4) x1) (x2 - (x1 + 1))).1 by rw [← hI.2.2.1, eL]; exact Int32.not_lt.mpr c_19)]; exact hI.2.2.2⟩) (by (try dsimp only); omega) _ _ _ hP hD hS (lv_sub hl [0, 5, 2, 1, 6, 7] rfl)
                · refine lv_iload hx hb dX8_next_121 (lv_at hl 1 rfl) ?_
                  refine lv_goto (tgt := 127) hx hb dX8_next_123 rfl ?_
                  refine lv_istore_n (lv' := [(2, .int (nI (cntB (gaB mo_hm lt hv c3 x1 x2) (mo_hm ^ mo_hm)))), (3, .int fo2), (7, .int (nI (cntB (gaB mo_hm lt hv c3 x1 x2) (mo_hm ^ mo_hm)))), (6, .int (nI (cntB (gaB mo_hm lt hv c3 x1 x2) (mo_hm ^ mo_hm)))), (5, .int (nI x2)), (4, .int (nI x1)), (0, .ref mo), (1, .int what)]) hx hb dX8_next_127 rfl hl (Nat.le_of_ble_eq_true rfl) rfl (fun ls hl => ?_)
                  refine lv_iinc (v := nI (x2 + 1)) (lv' := [(5, .int (nI (x2 + 1))), (2, .int (nI (cntB (gaB mo_hm lt hv c3 x1 x2) (mo_hm ^ mo_hm)))), (3, .int fo2), (7, .int (nI (cntB (gaB mo_hm lt hv c3 x1 x2) (mo_hm ^ mo_hm)))), (6, .int (nI (cntB (gaB mo_hm lt hv c3 x1 x2) (mo_hm ^ mo_hm)))), (4, .int (nI x1)), (0, .ref mo), (1, .int what)]) hx hb dX8_next_128 hl (k := 4) rfl (nI_add (x2) 1) (Nat.le_of_ble_eq_true rfl) rfl (fun ls hl => ?_)
                  refine lv_goto (tgt := 47) hx hb dX8_next_131 rfl ?_
                  exact ih47 (nI (cntB (gaB mo_hm lt hv c3 x1 x2) (mo_hm ^ mo_hm)), fo2, x2 + 1) (by (try dsimp only); exact absurd c_19 c_20) (by (try dsimp only); omega) _ _ _ hP hD hS (lv_sub hl [0, 5, 2, 1, 6, 7] rfl)
              · refine lv_bipush (v := 10) hx hb dX8_next_102 hkb_10 ?_
                refine lv_iload hx hb dX8_next_104 (lv_at hl 3 rfl) ?_
                refine lv_imul hx hb dX8_next_106 ?_
                refine hs_topi (nI (10 * x1)) (pk_mul (10) (x1)) ?_
                refine lv_iload hx hb dX8_next_107 (lv_at hl 2 rfl) ?_
                refine lv_iadd hx hb dX8_next_109 ?_
                refine hs_topi (nI ((10 * x1) + x2)) (nI_add ((10 * x1)) (x2)) ?_
                refine lv_goto (tgt := 114) hx hb dX8_next_110 rfl ?_
                refine lv_istore_n (lv' := [(3, .int (nI ((10 * x1) + x2))), (7, .int (nI (cntB (gaB mo_hm lt hv c3 x1 x2) (mo_hm ^ mo_hm)))), (6, .int (nI (cntB (gaB mo_hm lt hv c3 x1 x2) (mo_hm ^ mo_hm)))), (5, .int (nI x2)), (4, .int (nI x1)), (2, .int few2), (0, .ref mo), (1, .int what)]) hx hb dX8_next_114 rfl hl (Nat.le_of_ble_eq_true rfl) rfl (fun ls hl => ?_)
                refine lv_iload hx hb dX8_next_115 (lv_at hl 1 rfl) ?_
                refine lv_iload_n hx hb dX8_next_117 rfl (lv_at hl 5 rfl) ?_
                refine lv_icmp_ge (tgt := 126) hx hb dX8_next_118 rfl (fun c_21 => ?_) (fun c_21 => ?_)
                · refine lv_iload_n hx hb dX8_next_126 rfl (lv_at hl 5 rfl) ?_
                  refine lv_istore_n (lv' := [(2, .int few2), (3, .int (nI ((10 * x1) + x2))), (7, .int (nI (cntB (gaB mo_hm lt hv c3 x1 x2) (mo_hm ^ mo_hm)))), (6, .int (nI (cntB (gaB mo_hm lt hv c3 x1 x2) (mo_hm ^ mo_hm)))), (5, .int (nI x2)), (4, .int (nI x1)), (0, .ref mo), (1, .int what)]) hx hb dX8_next_127 rfl hl (Nat.le_of_ble_eq_true rfl) rfl (fun ls hl => ?_)
                  refine lv_iinc (v := nI (x2 + 1)) (lv' := [(5, .int (nI (x2 + 1))), (2, .int few2), (3, .int (nI ((10 * x1) + x2))), (7, .int (nI (cntB (gaB mo_hm lt hv c3 x1 x2) (mo_hm ^ mo_hm)))), (6, .int (nI (cntB (gaB mo_hm lt hv c3 x1 x2) (mo_hm ^ mo_hm)))), (4, .int (nI x1)), (0, .ref mo), (1, .int what)]) hx hb dX8_next_128 hl (k := 4) rfl (nI_add (x2) 1) (Nat.le_of_ble_eq_true rfl) rfl (fun ls hl => ?_)
                  refine lv_goto (tgt := 47) hx hb dX8_next_131 rfl ?_
                  exact ih47 (few2, nI ((10 * x1) + x2), x2 + 1) (by (try dsimp only); exact absurd c_21 c_19) (by (try dsimp only); omega) _ _ _ hP hD hS (lv_sub hl [0, 5, 2, 1, 6, 7] rfl)
                · refine lv_iload hx hb dX8_next_121 (lv_at hl 1 rfl) ?_
                  refine lv_goto (tgt := 127) hx hb dX8_next_123 rfl ?_
                  refine lv_istore_n (lv' := [(2, .int (nI (cntB (gaB mo_hm lt hv c3 x1 x2) (mo_hm ^ mo_hm)))), (3, .int (nI ((10 * x1) + x2))), (7, .int (nI (cntB (gaB mo_hm lt hv c3 x1 x2) (mo_hm ^ mo_hm)))), (6, .int (nI (cntB (gaB mo_hm lt hv c3 x1 x2) (mo_hm ^ mo_hm)))), (5, .int (nI x2)), (4, .int (nI x1)), (0, .ref mo), (1, .int what)]) hx hb dX8_next_127 rfl hl (Nat.le_of_ble_eq_true rfl) rfl (fun ls hl => ?_)
                  refine lv_iinc (v := nI (x2 + 1)) (lv' := [(5, .int (nI (x2 + 1))), (2, .int (nI (cntB (gaB mo_hm lt hv c3 x1 x2) (mo_hm ^ mo_hm)))), (3, .int (nI ((10 * x1) + x2))), (7, .int (nI (cntB (gaB mo_hm lt hv c3 x1 x2) (mo_hm ^ mo_hm)))), (6, .int (nI (cntB (gaB mo_hm lt hv c3 x1 x2) (mo_hm ^ mo_hm)))), (4, .int (nI x1)), (0, .ref mo), (1, .int what)]) hx hb dX8_next_128 hl (k := 4) rfl (nI_add (x2) 1) (Nat.le_of_ble_eq_true rfl) rfl (fun ls hl => ?_)
                  refine lv_goto (tgt := 47) hx hb dX8_next_131 rfl ?_
                  exact ih47 (nI (cntB (gaB mo_hm lt hv c3 x1 x2) (mo_hm ^ mo_hm)), nI ((10 * x1) + x2), x2 + 1) (by (try dsimp only); have eL : (A_nLM u_10.1.1 mo_hm lt hv c3) x1 x2 = _ := if_neg c_15; exact ⟨by omega, by omega, by rw [A_nb_s hI.1, if_pos (show (A_nLM u_10.1.1 mo_hm lt hv c3) x1 x2 < (A_nb (A_nLM u_10.1.1 mo_hm lt hv c3) x1 (A_na (A_nLM u_10.1.1 mo_hm lt hv c3) mo_hm (nI u_10.1.1, -4) x1) (x2 - (x1 + 1))).1 by rw [← hI.2.2.1, eL]; exact Int32.not_le.mp c_19)]; exact eL.symm, by rw [A_nb_s hI.1, if_pos (show (A_nLM u_10.1.1 mo_hm lt hv c3) x1 x2 < (A_nb (A_nLM u_10.1.1 mo_hm lt hv c3) x1 (A_na (A_nLM u_10.1.1 mo_hm lt hv c3) mo_hm (nI u_10.1.1, -4) x1) (x2 - (x1 + 1))).1 by rw [← hI.2.2.1, eL]; exact Int32.not_le.mp c_19)]; (try rfl)⟩) (by (try dsimp only); omega) _ _ _ hP hD hS (lv_sub hl [0, 5, 2, 1, 6, 7] rfl)
        · (try dsimp only); exact ⟨Nat.le_refl _, by omega, by rw [Nat.sub_self]; exact hI.2.1, by rw [Nat.sub_self]; exact hI.2.2⟩
    · (try dsimp only); exact ⟨Nat.zero_le _, rfl, rfl⟩
  · refine lv_iconst (v := (-1)) hx hb dX8_next_7 hki_m1 ?_
    exact hs_iret hx hb hr hlocks hK hP hD hS (af, ((mo_orderMany, mo_fo, mo_lightest, mo_heaviest), rf, bf)) [0, 1, 2, 3, 4] rfl (hs_upnd rfl) dX8_next_8 ((by rw [A_nxM, if_neg (by rw [hs_n0 c_4]; decide)]))
