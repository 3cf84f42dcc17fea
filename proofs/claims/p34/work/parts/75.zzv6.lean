set_option maxHeartbeats 4000000 in
set_option maxRecDepth 100000 in
theorem gpf_drift (l : Launch) (D : va_G) (k : Nat → ClassId) (sz : Nat) (h : Nat) (h_now : Nat) (h_trial : Nat) (h_images : Nat) (h_imageThere : Nat) (h_teller : Nat) (h_ranks : Nat) (h_court : Nat) (h_sheets : Nat) (h_lf : Int32) (h_lt : Int32) (n_a : Nat → Nat) (n_N : Nat → Nat) (n_J : Nat → Int32) (n_F : Nat → Nat → Int32) (tr_a : Nat → Nat) (tr_N : Nat → Nat) (tr_J : Nat → Int32) (tr_F : Nat → Nat → Int32) (seed : Int32) (n : Int32) (what : Int32) (hN0 : thN n_N) (hF : thF n_N n_F) (h2 : 2 ≤ n_N 0) : MI l yX7_drift wsX7_drift ({ frames := 3, cells := 0, slots := 0, locals := 81 }) D k [.ref h, .int seed, .int n, .int what] [oq6 h h_now h_trial h_images h_imageThere h_teller h_ranks h_court h_sheets h_lf h_lt, oqT h_now n_a n_N n_J, oqF0 k n_a n_F, oqF1 k n_a n_F, oqF2 k n_a n_F, oqF3 k n_a n_F, oqF4 k n_a n_F, oqF5 k n_a n_F, oqF6 k n_a n_F, oqT h_trial tr_a tr_N tr_J, oqF0 k tr_a tr_F, oqF1 k tr_a tr_F, oqF2 k tr_a tr_F, oqF3 k tr_a tr_F, oqF4 k tr_a tr_F, oqF5 k tr_a tr_F, oqF6 k tr_a tr_F] sz (fun (r : Int32) (u : (Nat → Nat) × (Nat → Int32) × (Nat → Nat → Int32)) => r = A_driC n_N n_J n_F seed n what) (fun (u : (Nat → Nat) × (Nat → Int32) × (Nat → Nat → Int32)) => [oq6 h h_now h_trial h_images h_imageThere h_teller h_ranks h_court h_sheets h_lf h_lt, oqT h_now n_a n_N n_J, oqF0 k n_a n_F, oqF1 k n_a n_F, oqF2 k n_a n_F, oqF3 k n_a n_F, oqF4 k n_a n_F, oqF5 k n_a n_F, oqF6 k n_a n_F, oqT h_trial tr_a u.1 u.2.1, oqF0 k tr_a u.2.2, oqF1 k tr_a u.2.2, oqF2 k tr_a u.2.2, oqF3 k tr_a u.2.2, oqF4 k tr_a u.2.2, oqF5 k tr_a u.2.2, oqF6 k tr_a u.2.2]) := by
  refine Met.ofW (cc := cX7_drift) (maxL := 8) (ret := (some .int)) hpn_X7 rfl ?_
  intro p e s m args below meth c s₁ B hml hv
  obtain ⟨rfl, hsz, hP, hK, hD0, hN⟩ := hv
  have hx := B.exec
  have hb := B.bytes
  have hr := B.returns
  have hlocks := B.notSynchronized
  have hts := atoms_spec (ws := wsX7_drift) B.pre
  have hown := findClass_of_methodNamed B.named
  have hown : s.vm.findClass RX7 = some m.cls := hown
  have hiX6 : ∀ w ∈ u_ws RX6 TX6 15, w ∈ wsX7_drift := fun w9 hw9 => List.mem_cons_of_mem _ (igX6 w9 hw9)
  have hiX7 : ∀ w ∈ u_ws RX7 TX7 10, w ∈ wsX7_drift := fun w9 hw9 => List.mem_cons_of_mem _ (igX7 w9 hw9)
  have fl16 := hts (.fieldLink RX7 16 "HalfScales" "trial" "LHalfScales$Thing;") (List.mem_cons_of_mem _ (hs_inG 1 216 rfl rfl))
  have fl10 := hts (.fieldLink RX7 10 "HalfScales" "now" "LHalfScales$Thing;") (List.mem_cons_of_mem _ (hs_inG 1 215 rfl rfl))
  have fl93 := hts (.fieldLink RX7 93 "HalfScales$Thing" "cellCount" "I") (List.mem_cons_of_mem _ (hs_inG 1 53 rfl rfl))
  have fl122 := hts (.fieldLink RX7 122 "HalfScales$Thing" "weights" "[I") (List.mem_cons_of_mem _ (hs_inG 1 36 rfl rfl))
  have kc255 := hts (.constant RX7 255 (1103515245)) (List.mem_cons_of_mem _ (hs_inG 3 233 rfl rfl))
  have hNn := hN0
  obtain ⟨I0, I1, ⟨I2, I2b⟩, I3, I4⟩ := hN0
  subst hsz
  have hD := hD0.self (sz := s.heap.size)
  generalize hAe : va_A [oq6 h h_now h_trial h_images h_imageThere h_teller h_ranks h_court h_sheets h_lf h_lt, oqT h_now n_a n_N n_J, oqF0 k n_a n_F, oqF1 k n_a n_F, oqF2 k n_a n_F, oqF3 k n_a n_F, oqF4 k n_a n_F, oqF5 k n_a n_F, oqF6 k n_a n_F, oqT h_trial tr_a tr_N tr_J, oqF0 k tr_a tr_F, oqF1 k tr_a tr_F, oqF2 k tr_a tr_F, oqF3 k tr_a tr_F, oqF4 k tr_a tr_F, oqF5 k tr_a tr_F, oqF6 k tr_a tr_F] s.heap.size = A at hD ⊢
  have hA : ∀ q : Nat, s.heap.size ≤ q → A q := fun q h => by rw [← hAe]; exact Or.inr h
  have hS : va_S A s.heap s.heap [] := va_S.rf
  have hl := lv_entry ([.ref h, .int seed, .int n, .int what]) (n := 8) (Nat.le_of_ble_eq_true rfl)
  rw [lg_entry_eq]
  generalize (lg_sl ([.ref h, .int seed, .int n, .int what]) ++ List.replicate (8 - (lg_sl ([.ref h, .int seed, .int n, .int what])).length) Slot.unset).toArray = ls at hl ⊢
  have hl : lv_has ls 8 [(0, .ref h), (1, .int seed), (2, .int n), (3, .int what)] := hl
  have hP : va_P D vwCl [oq6 h h_now h_trial h_images h_imageThere h_teller h_ranks h_court h_sheets h_lf h_lt, oqT h_now n_a n_N n_J, oqF0 k n_a n_F, oqF1 k n_a n_F, oqF2 k n_a n_F, oqF3 k n_a n_F, oqF4 k n_a n_F, oqF5 k n_a n_F, oqF6 k n_a n_F, oqT h_trial tr_a tr_N tr_J, oqF0 k tr_a tr_F, oqF1 k tr_a tr_F, oqF2 k tr_a tr_F, oqF3 k tr_a tr_F, oqF4 k tr_a tr_F, oqF5 k tr_a tr_F, oqF6 k tr_a tr_F] s.heap := hP
  refine lv_iload_n hx hb dX7_drift_0 rfl (lv_at hl 2 rfl) ?_
  refine lv_iconst (v := 1) hx hb dX7_drift_1 hki_1 ?_
  refine lv_bipush (v := 60) hx hb dX7_drift_2 hkb_60 ?_
  refine hs_pi (va_runS (As := [.int n, .int 1, .int 60]) (rest := []) ⟨hx, hb, hml, hown, hts⟩ (g_within l D k _ n 1 60) (va_cwS 3 hts gX7_drift_X7_within rfl rfl rfl hq_X7_within ⟨Nat.le_of_ble_eq_true rfl, Nat.le_of_ble_eq_true rfl⟩) (hs_preS hK hN (hs_subP (w := []) hP [] rfl) (hD.sub (ws' := []) [] rfl rfl)) rfl rfl hl.1 rfl (lv_room (Nat.le_of_ble_eq_true rfl)) dX7_drift_4 ⟨Nat.le_of_ble_eq_true rfl, Nat.le_of_ble_eq_true rfl⟩) hP hD hS hA (fun r_1 u_3 H locs hw_2 hP hS => ?_)
  refine hs_topi (hsb (hsin n 1 60)) hw_2 ?_
  refine lv_if_eq (tgt := 19) hx hb dX7_drift_7 rfl (fun c_4 => ?_) (fun c_4 => ?_)
  · refine lv_iconst (v := (-1)) hx hb dX7_drift_19 hki_m1 ?_
    exact hs_iret hx hb hr hlocks hK hP hD hS (tr_N, tr_J, (fun j => ([tr_F 0, tr_F 1, tr_F 2, tr_F 3, tr_F 4, tr_F 5, tr_F 6] : List (Nat → Int32)).getD j hsz)) [0, 1, 2, 3, 4, 5, 6, 7, 8, 9, 10, 11, 12, 13, 14, 15, 16] rfl (hs_upnd rfl) dX7_drift_20 ((by rw [A_driC, if_neg (by rw [hs_n0 c_4, Bool.false_and]; decide)]))
  · obtain ⟨N, hN60, rfl⟩ := hs_n60 (hs_nb c_4)
    refine lv_iload_n hx hb dX7_drift_10 rfl (lv_at hl 3 rfl) ?_
    refine lv_iconst (v := 0) hx hb dX7_drift_11 hki_0 ?_
    refine lv_iconst (v := 1) hx hb dX7_drift_12 hki_1 ?_
    refine hs_pi (va_runS (As := [.int what, .int 0, .int 1]) (rest := []) ⟨hx, hb, hml, hown, hts⟩ (g_within l D k _ what 0 1) (va_cwS 3 hts gX7_drift_X7_within rfl rfl rfl hq_X7_within ⟨Nat.le_of_ble_eq_true rfl, Nat.le_of_ble_eq_true rfl⟩) (hs_preS hK hN (hs_subP (w := []) hP [] rfl) (hD.sub (ws' := []) [] rfl rfl)) rfl rfl hl.1 rfl (lv_room (Nat.le_of_ble_eq_true rfl)) dX7_drift_13 ⟨Nat.le_of_ble_eq_true rfl, Nat.le_of_ble_eq_true rfl⟩) hP hD hS hA (fun r_5 u_7 H locs hw_6 hP hS => ?_)
    refine hs_topi (hsb (hsin what 0 1)) hw_6 ?_
    refine lv_if_ne (tgt := 21) hx hb dX7_drift_16 rfl (fun c_8 => ?_) (fun c_8 => ?_)
    · refine lv_aload_n hx hb dX7_drift_21 rfl (lv_at hl 0 rfl) ?_
      refine va_get (D := D) (ci := 6) (v := .ref h_trial) (C := RX7) (T := TX7) (N := 10) hx hb hts hiX7 hown hK hP 0 rfl rfl 1 (Nat.le_of_ble_eq_true rfl) fl16 (fun _ h9 => h9) rfl dX7_drift_22 ?_
      refine lv_aload_n hx hb dX7_drift_25 rfl (lv_at hl 0 rfl) ?_
      refine va_get (D := D) (ci := 6) (v := .ref h_now) (C := RX7) (T := TX7) (N := 10) hx hb hts hiX7 hown hK hP 0 rfl rfl 0 (Nat.le_of_ble_eq_true rfl) fl10 (fun _ h9 => h9) rfl dX7_drift_26 ?_
      refine hs_cvM (va_runV (As := [.ref h_now]) (rest := []) ⟨hx, hb, hml, hown, hts⟩ (g_copyFrom l D k _ h_trial tr_a tr_N tr_J tr_F h_now n_a n_N n_J n_F) (cwV 1 hts gX7_drift_X6_copyFrom rfl rfl rfl ⟨rfl, hq_X6_copyFrom⟩ ⟨Nat.le_of_ble_eq_true rfl, Nat.le_of_ble_eq_true rfl⟩) (hs_preV hK hN (hs_subP (w := [_, _, _, _, _, _, _, _, _, _, _, _, _, _, _, _]) hP [9, 10, 11, 12, 13, 14, 15, 16, 1, 2, 3, 4, 5, 6, 7, 8] rfl) (hD.sub (ws' := [_, _, _, _, _, _, _, _, _, _, _, _, _, _, _, _]) [9, 10, 11, 12, 13, 14, 15, 16, 1, 2, 3, 4, 5, 6, 7, 8] (by decide +kernel) rfl) (ci := 5) (q0 := 0) rfl rfl) rfl rfl hl.1 rfl (lv_room (Nat.le_of_ble_eq_true rfl)) dX7_drift_29 ⟨Nat.le_of_ble_eq_true rfl, Nat.le_of_ble_eq_true rfl⟩) hP hD hS hA [true, false, false, false, false, false, false, false, false, false, false, false, false, false, false, false, false] [_] [_, _, _, _, _, _, _, _, _, _, _, _, _, _, _, _] rfl [8, 9, 10, 11, 12, 13, 14, 15, 0, 1, 2, 3, 4, 5, 6, 7] rfl [8, 9, 10, 11, 12, 13, 14, 15, 0, 1, 2, 3, 4, 5, 6, 7] (fun u_11 => [_, _, _, _, _, _, _, _, _, _, _, _, _, _, _, _]) (fun _ => rfl) (by decide +kernel) [true, false, false, false, false, false, false, false, false, false, false, false, false, false, false, false, false] (fun u_11 => [_, _, _, _, _, _, _, _, _, _, _, _, _, _, _, _, _]) (fun _ => rfl) (fun u_11 H locs hw_10 hP hD hS => ?_)
      have hw_10 : ∀ q i, i < hs7 q → u_11 q i = n_F q i := hw_10
      refine lv_iload_n hx hb dX7_drift_32 rfl (lv_at hl 1 rfl) ?_
      refine lv_istore (lv' := [(4, .int seed), (0, .ref h), (1, .int seed), (2, .int (nI N)), (3, .int what)]) hx hb dX7_drift_33 hl (Nat.le_of_ble_eq_true rfl) rfl (fun ls hl => ?_)
      refine lv_iconst (v := 0) hx hb dX7_drift_35 hki_0 ?_
      refine lv_istore (lv' := [(5, .int 0), (4, .int seed), (0, .ref h), (1, .int seed), (2, .int (nI N)), (3, .int what)]) hx hb dX7_drift_36 hl (Nat.le_of_ble_eq_true rfl) rfl (fun ls hl => ?_)
      refine lv_iconst (v := 0) hx hb dX7_drift_38 hki_0 ?_
      refine lv_istore (lv' := [(6, .int 0), (5, .int 0), (4, .int seed), (0, .ref h), (1, .int seed), (2, .int (nI N)), (3, .int what)]) hx hb dX7_drift_39 hl (Nat.le_of_ble_eq_true rfl) rfl (fun ls hl => ?_)
      refine hs_while (σ := Int32 × Int32 × Nat × (Nat → Int32)) (fun x => x.2.2.1 ≤ N ∧ x.1 = (A_dw (n_N 0) seed (n_F 0) x.2.2.1).1 ∧ (∀ q, q < 8 → x.2.2.2 q = (A_dw (n_N 0) seed (n_F 0) x.2.2.1).2 q) ∧ (what = 0 → x.2.1 = A_ds (A_jdC n_N n_J n_F) (n_N 0) seed (n_F 0) x.2.2.1)) (fun x => N - x.2.2.1) (fun x => [oq6 h h_now h_trial h_images h_imageThere h_teller h_ranks h_court h_sheets h_lf h_lt, oqT h_now n_a n_N n_J, oqF0 k n_a n_F, oqF1 k n_a n_F, oqF2 k n_a n_F, oqF3 k n_a n_F, oqF4 k n_a n_F, oqF5 k n_a n_F, oqF6 k n_a n_F, oqT h_trial tr_a n_N n_J, oqI k (tr_a 0) 8 ((x.2.2.2)), oqF1 k tr_a u_11, oqF2 k tr_a u_11, oqF3 k tr_a u_11, oqF4 k tr_a u_11, oqF5 k tr_a u_11, oqF6 k tr_a u_11]) (fun x => [(6, .int (nI (x.2.2.1))), (5, .int (x.2.1)), (4, .int (x.1)), (0, .ref h), (1, .int seed), (2, .int (nI N)), (3, .int what)]) ?_ (seed, 0, 0, u_11 0) ?_ hP hD hS hl
      · intro x hI ih41 H locs ls hP hD hS hl
        obtain ⟨at0, sum, i, wf⟩ := x
        try dsimp only at hI
        have hP : va_P D vwCl [_, _, _, _, _, _, _, _, _, _, oqI k (tr_a 0) 8 (wf), _, _, _, _, _, _] H := hP
        have hD : va_D A [_, _, _, _, _, _, _, _, _, _, oqI k (tr_a 0) 8 (wf), _, _, _, _, _, _] := hD
        have hl : lv_has ls 8 [(6, .int (nI i)), (5, .int sum), (4, .int at0), (0, .ref h), (1, .int seed), (2, .int (nI N)), (3, .int what)] := hl
        refine lv_iload hx hb dX7_drift_41 (lv_at hl 0 rfl) ?_
        refine lv_iload_n hx hb dX7_drift_43 rfl (lv_at hl 5 rfl) ?_
        refine lv_icmp_ge (tgt := 127) hx hb dX7_drift_44 rfl (fun c_12 => ?_) (fun c_12 => ?_)
        · have nc_12 : N ≤ i := (nI_leI (a := N) (b := i) (by omega) (by omega)).mp c_12
          refine lv_iload_n hx hb dX7_drift_127 rfl (lv_at hl 6 rfl) ?_
          refine lv_if_ne (tgt := 136) hx hb dX7_drift_128 rfl (fun c_13 => ?_) (fun c_13 => ?_)
          · refine lv_aload_n hx hb dX7_drift_136 rfl (lv_at hl 3 rfl) ?_
            refine va_get (D := D) (ci := 6) (v := .ref h_trial) (C := RX7) (T := TX7) (N := 10) hx hb hts hiX7 hown hK hP 0 rfl rfl 1 (Nat.le_of_ble_eq_true rfl) fl16 (fun _ h9 => h9) rfl dX7_drift_137 ?_
            refine hs_ciM (va_runV (As := []) (rest := []) ⟨hx, hb, hml, hown, hts⟩ (gf_allWeights l D k _ h_trial tr_a n_N n_J (fun j => ([wf, u_11 1, u_11 2, u_11 3, u_11 4, u_11 5, u_11 6] : List (Nat → Int32)).getD j hsz) (by first | assumption | exact ⟨by first | omega | (dsimp; omega), by first | omega | (dsimp; omega), ⟨by first | omega | (dsimp; omega), by first | omega | (dsimp; omega)⟩, by first | omega | (dsimp; omega), by first | omega | (dsimp; omega)⟩)) (cwV 0 hts gX7_drift_X6_allWeights rfl rfl rfl ⟨rfl, hq_X6_allWeights⟩ ⟨Nat.le_of_ble_eq_true rfl, Nat.le_of_ble_eq_true rfl⟩) (hs_preV hK hN (hs_subP (w := [_, _, _, _, _, _, _, _]) hP [9, 10, 11, 12, 13, 14, 15, 16] rfl) (hD.sub (ws' := [_, _, _, _, _, _, _, _]) [9, 10, 11, 12, 13, 14, 15, 16] (hs_upnd rfl) rfl) (ci := 5) (q0 := 0) rfl rfl) rfl rfl hl.1 rfl (lv_room (Nat.le_of_ble_eq_true rfl)) dX7_drift_140 ⟨Nat.le_of_ble_eq_true rfl, Nat.le_of_ble_eq_true rfl⟩) hP hD hS hA [true, true, true, true, true, true, true, true, true, false, false, false, false, false, false, false, false] [_, _, _, _, _, _, _, _, _] [_, _, _, _, _, _, _, _] rfl [0, 1, 2, 3, 4, 5, 6, 7] rfl [0, 1, 2, 3, 4, 5, 6, 7] (fun u_16 => [_, _, _, _, _, _, _, _]) (fun _ => rfl) (hs_upnd rfl) [true, true, true, true, true, true, true, true, true, false, false, false, false, false, false, false, false] (fun u_16 => [_, _, _, _, _, _, _, _, _, _, _, _, _, _, _, _, _]) (fun _ => rfl) (fun r_14 u_16 H locs hw_15 hP hD hS => ?_)
            refine hs_topi (smW ((fun j => ([wf, u_11 1, u_11 2, u_11 3, u_11 4, u_11 5, u_11 6] : List (Nat → Int32)).getD j hsz) 0) (n_N 0)) hw_15 ?_
            exact hs_iret hx hb hr hlocks hK hP hD hS (n_N, n_J, (fun j => ([(fun j => ([wf, u_11 1, u_11 2, u_11 3, u_11 4, u_11 5, u_11 6] : List (Nat → Int32)).getD j hsz) 0, (fun j => ([wf, u_11 1, u_11 2, u_11 3, u_11 4, u_11 5, u_11 6] : List (Nat → Int32)).getD j hsz) 1, (fun j => ([wf, u_11 1, u_11 2, u_11 3, u_11 4, u_11 5, u_11 6] : List (Nat → Int32)).getD j hsz) 2, (fun j => ([wf, u_11 1, u_11 2, u_11 3, u_11 4, u_11 5, u_11 6] : List (Nat → Int32)).getD j hsz) 3, (fun j => ([wf, u_11 1, u_11 2, u_11 3, u_11 4, u_11 5, u_11 6] : List (Nat → Int32)).getD j hsz) 4, (fun j => ([wf, u_11 1, u_11 2, u_11 3, u_11 4, u_11 5, u_11 6] : List (Nat → Int32)).getD j hsz) 5, (fun j => ([wf, u_11 1, u_11 2, u_11 3, u_11 4, u_11 5, u_11 6] : List (Nat → Int32)).getD j hsz) 6] : List (Nat → Int32)).getD j hsz)) [0, 1, 2, 3, 4, 5, 6, 7, 8, 9, 10, 11, 12, 13, 14, 15, 16] rfl (hs_upnd rfl) dX7_drift_143 ((by rw [A_driC, if_pos (by rw [hs_nb c_4, hs_nb c_8]; rfl), nI_clamp (by omega), if_neg c_13, ← show i = N by omega]; exact smW_congr (n_N 0) (fun j9 h9 => hI.2.2.1 j9 (by omega))))
          · refine lv_iload hx hb dX7_drift_131 (lv_at hl 1 rfl) ?_
            refine lv_goto (tgt := 143) hx hb dX7_drift_133 rfl ?_
            exact hs_iret hx hb hr hlocks hK hP hD hS (n_N, n_J, (fun j => ([wf, u_11 1, u_11 2, u_11 3, u_11 4, u_11 5, u_11 6] : List (Nat → Int32)).getD j hsz)) [0, 1, 2, 3, 4, 5, 6, 7, 8, 9, 10, 11, 12, 13, 14, 15, 16] rfl (hs_upnd rfl) dX7_drift_143 ((by rw [A_driC, if_pos (by rw [hs_nb c_4, hs_nb c_8]; rfl), nI_clamp (by omega), if_pos c_13, ← show i = N by omega]; exact hI.2.2.2 c_13))
        · have nc_12 : ¬ N ≤ i := fun hq9 => c_12 ((nI_leI (a := N) (b := i) (by omega) (by omega)).mpr hq9)
          refine lv_aload_n hx hb dX7_drift_47 rfl (lv_at hl 3 rfl) ?_
          refine va_get (D := D) (ci := 6) (v := .ref h_trial) (C := RX7) (T := TX7) (N := 10) hx hb hts hiX7 hown hK hP 0 rfl rfl 1 (Nat.le_of_ble_eq_true rfl) fl16 (fun _ h9 => h9) rfl dX7_drift_48 ?_
          refine va_get (D := D) (ci := 5) (v := .int (nI (n_N 0))) (C := RX6) (T := TX6) (N := 15) hx hb hts hiX6 hown hK hP 9 rfl rfl 7 (Nat.le_of_ble_eq_true rfl) fl93 (fun _ h9 => h9) rfl dX7_drift_51 ?_
          refine lv_if_le (tgt := 127) hx hb dX7_drift_54 rfl (fun c_17 => absurd ((nI_leI (a := n_N 0) (b := 0) (by omega) (by omega)).mp c_17) (by omega)) (fun c_17 => ?_)
          refine lv_iload hx hb dX7_drift_57 (lv_at hl 2 rfl) ?_
          refine lv_ldc hx hb hown kc255 dX7_drift_59 ?_
          refine lv_imul hx hb dX7_drift_61 ?_
          refine lv_sipush (v := 12345) hx hb dX7_drift_62 hkp_12345 ?_
          refine lv_iadd hx hb dX7_drift_65 ?_
          refine lv_istore (lv' := [(4, .int ((at0 * 1103515245) + 12345)), (6, .int (nI i)), (5, .int sum), (0, .ref h), (1, .int seed), (2, .int (nI N)), (3, .int what)]) hx hb dX7_drift_66 hl (Nat.le_of_ble_eq_true rfl) rfl (fun ls hl => ?_)
          refine lv_iload hx hb dX7_drift_68 (lv_at hl 0 rfl) ?_
          refine lv_bipush (v := 16) hx hb dX7_drift_70 hkb_16 ?_
          refine lv_iushr hx hb dX7_drift_72 rfl ?_
          refine lv_sipush (v := 32767) hx hb dX7_drift_73 hkp_32767 ?_
          refine lv_iand hx hb dX7_drift_76 ?_
          obtain ⟨gt, egt⟩ : ∃ g9, g9 = dr_m ((at0 * 1103515245) + 12345) := ⟨_, rfl⟩
          have hgl : gt < 32768 := by rw [egt]; exact dr_lt _
          refine hs_topi (nI gt) (by rw [egt]; exact dr_um _) ?_
          refine lv_istore (lv' := [(7, .int (nI gt)), (4, .int ((at0 * 1103515245) + 12345)), (6, .int (nI i)), (5, .int sum), (0, .ref h), (1, .int seed), (2, .int (nI N)), (3, .int what)]) hx hb dX7_drift_77 hl (Nat.le_of_ble_eq_true rfl) rfl (fun ls hl => ?_)
          refine lv_aload_n hx hb dX7_drift_79 rfl (lv_at hl 4 rfl) ?_
          refine va_get (D := D) (ci := 6) (v := .ref h_trial) (C := RX7) (T := TX7) (N := 10) hx hb hts hiX7 hown hK hP 0 rfl rfl 1 (Nat.le_of_ble_eq_true rfl) fl16 (fun _ h9 => h9) rfl dX7_drift_80 ?_
          refine va_get (D := D) (ci := 5) (v := .ref (tr_a 0)) (C := RX6) (T := TX6) (N := 15) hx hb hts hiX6 hown hK hP 9 rfl rfl 0 (Nat.le_of_ble_eq_true rfl) fl122 (fun _ h9 => h9) rfl dX7_drift_83 ?_
          refine lv_iload hx hb dX7_drift_86 (lv_at hl 0 rfl) ?_
          refine lv_aload_n hx hb dX7_drift_88 rfl (lv_at hl 4 rfl) ?_
          refine va_get (D := D) (ci := 6) (v := .ref h_trial) (C := RX7) (T := TX7) (N := 10) hx hb hts hiX7 hown hK hP 0 rfl rfl 1 (Nat.le_of_ble_eq_true rfl) fl16 (fun _ h9 => h9) rfl dX7_drift_89 ?_
          refine va_get (D := D) (ci := 5) (v := .int (nI (n_N 0))) (C := RX6) (T := TX6) (N := 15) hx hb hts hiX6 hown hK hP 9 rfl rfl 7 (Nat.le_of_ble_eq_true rfl) fl93 (fun _ h9 => h9) rfl dX7_drift_92 ?_
          refine lv_irem hx hb dX7_drift_95 (nI_ne0 (by omega) (by omega)) ?_
          have hgm := Nat.mod_lt gt (show 0 < n_N 0 by omega)
          refine hs_topi (nI (gt % n_N 0)) (pk_rem (by omega) (by omega) (by omega)) ?_
          refine lv_iload hx hb dX7_drift_96 (lv_at hl 0 rfl) ?_
          refine lv_bipush (v := 8) hx hb dX7_drift_98 hkb_8 ?_
          refine lv_idiv hx hb dX7_drift_100 (by decide) ?_
          refine hs_topi (nI (gt / 8)) (show nI gt / 8 = nI (gt / 8) from pk_div (d := 8) (by omega) (by decide) (by decide)) ?_
          refine lv_bipush (v := 10) hx hb dX7_drift_101 hkb_10 ?_
          refine lv_irem hx hb dX7_drift_103 (by decide) ?_
          refine hs_topi (nI (gt / 8 % 10)) (show nI (gt / 8) - nI (gt / 8) / 10 * 10 = nI (gt / 8 % 10) from pk_rem (d := 10) (by omega) (by decide) (by decide)) ?_
          refine va_iast hx hb hK hP hD hS 10 0 rfl rfl (vp_in_nI (show (gt % n_N 0) < 8 by omega) (by decide)) dX7_drift_104 (fun H locs hP hD hS => ?_)
          have hE : upd wf ((nI (gt % n_N 0)).toNatClampNeg) (nI (gt / 8 % 10)) = upd wf (gt % n_N 0) (nI (gt / 8 % 10)) := (by rw [nI_clamp (by omega)])
          have hP : va_P D vwCl [_, _, _, _, _, _, _, _, _, _, oqI k (tr_a 0) 8 (upd wf ((nI (gt % n_N 0)).toNatClampNeg) (nI (gt / 8 % 10))), oqF1 k tr_a u_11, oqF2 k tr_a u_11, oqF3 k tr_a u_11, oqF4 k tr_a u_11, oqF5 k tr_a u_11, oqF6 k tr_a u_11] H := hP
          have hD : va_D A [_, _, _, _, _, _, _, _, _, _, oqI k (tr_a 0) 8 (upd wf ((nI (gt % n_N 0)).toNatClampNeg) (nI (gt / 8 % 10))), oqF1 k tr_a u_11, oqF2 k tr_a u_11, oqF3 k tr_a u_11, oqF4 k tr_a u_11, oqF5 k tr_a u_11, oqF6 k tr_a u_11] := hD
          rw [hE] at hP hD
          refine lv_iload_n hx hb dX7_drift_105 rfl (lv_at hl 7 rfl) ?_
          refine lv_if_ne (tgt := 121) hx hb dX7_drift_106 rfl (fun c_18 => ?_) (fun c_18 => ?_)
          · refine lv_iinc (v := nI (i + 1)) (lv' := [(6, .int (nI (i + 1))), (7, .int (nI gt)), (4, .int ((at0 * 1103515245) + 12345)), (5, .int sum), (0, .ref h), (1, .int seed), (2, .int (nI N)), (3, .int what)]) hx hb dX7_drift_121 hl (k := 2) rfl (nI_add (i) 1) (Nat.le_of_ble_eq_true rfl) rfl (fun ls hl => ?_)
            refine lv_goto (tgt := 41) hx hb dX7_drift_124 rfl ?_
            exact ih41 ((at0 * 1103515245) + 12345, sum, i + 1, upd wf (gt % n_N 0) (nI (gt / 8 % 10))) (by (try dsimp only); have e9 := A_dw_s hI.2.1 hI.2.2.1 egt; exact ⟨by omega, e9.1, fun q h9 => e9.2 q h9, fun z9 => absurd z9 c_18⟩) (by (try dsimp only); omega) _ _ _ hP hD hS (lv_sub hl [0, 3, 2, 4, 5, 6, 7] rfl)
          · refine lv_iload hx hb dX7_drift_109 (lv_at hl 3 rfl) ?_
            refine lv_aload_n hx hb dX7_drift_111 rfl (lv_at hl 4 rfl) ?_
            refine va_get (D := D) (ci := 6) (v := .ref h_trial) (C := RX7) (T := TX7) (N := 10) hx hb hts hiX7 hown hK hP 0 rfl rfl 1 (Nat.le_of_ble_eq_true rfl) fl16 (fun _ h9 => h9) rfl dX7_drift_112 ?_
            refine hs_ciM (va_runV (As := []) (rest := [.int sum]) ⟨hx, hb, hml, hown, hts⟩ (gf_justInAll l D k _ h_trial tr_a n_N n_J (fun j => ([upd wf (gt % n_N 0) (nI (gt / 8 % 10)), u_11 1, u_11 2, u_11 3, u_11 4, u_11 5, u_11 6] : List (Nat → Int32)).getD j hsz) (by first | assumption | exact ⟨by first | omega | (dsimp; omega), by first | omega | (dsimp; omega), ⟨by first | omega | (dsimp; omega), by first | omega | (dsimp; omega)⟩, by first | omega | (dsimp; omega), by first | omega | (dsimp; omega)⟩)) (cwV 0 hts gX7_drift_X6_justInAll rfl rfl rfl ⟨rfl, hq_X6_justInAll⟩ ⟨Nat.le_of_ble_eq_true rfl, Nat.le_of_ble_eq_true rfl⟩) (hs_preV hK hN (hs_subP (w := [_, _, _, _, _, _, _, _]) hP [9, 10, 11, 12, 13, 14, 15, 16] rfl) (hD.sub (ws' := [_, _, _, _, _, _, _, _]) [9, 10, 11, 12, 13, 14, 15, 16] (hs_upnd rfl) rfl) (ci := 5) (q0 := 0) rfl rfl) rfl rfl hl.1 rfl (lv_room (Nat.le_of_ble_eq_true rfl)) dX7_drift_115 ⟨Nat.le_of_ble_eq_true rfl, Nat.le_of_ble_eq_true rfl⟩) hP hD hS hA [true, true, true, true, true, true, true, true, true, false, false, false, false, false, false, false, false] [_, _, _, _, _, _, _, _, _] [_, _, _, _, _, _, _, _] rfl [0, 1, 2, 3, 4, 5, 6, 7] rfl [0, 1, 2, 3, 4, 5, 6, 7] (fun u_21 => [_, _, _, _, _, _, _, _]) (fun _ => rfl) (hs_upnd rfl) [true, true, true, true, true, true, true, true, true, false, false, false, false, false, false, false, false] (fun u_21 => [_, _, _, _, _, _, _, _, _, _, _, _, _, _, _, _, _]) (fun _ => rfl) (fun r_19 u_21 H locs hw_20 hP hD hS => ?_)
            refine hs_topi (A_jiC n_N n_J (fun j => ([upd wf (gt % n_N 0) (nI (gt / 8 % 10)), u_11 1, u_11 2, u_11 3, u_11 4, u_11 5, u_11 6] : List (Nat → Int32)).getD j hsz) (n_N 1)) hw_20 ?_
            refine lv_iadd hx hb dX7_drift_118 ?_
            refine lv_istore (lv' := [(5, .int (sum + (A_jiC n_N n_J (fun j => ([upd wf (gt % n_N 0) (nI (gt / 8 % 10)), u_11 1, u_11 2, u_11 3, u_11 4, u_11 5, u_11 6] : List (Nat → Int32)).getD j hsz) (n_N 1)))), (7, .int (nI gt)), (4, .int ((at0 * 1103515245) + 12345)), (6, .int (nI i)), (0, .ref h), (1, .int seed), (2, .int (nI N)), (3, .int what)]) hx hb dX7_drift_119 hl (Nat.le_of_ble_eq_true rfl) rfl (fun ls hl => ?_)
            refine lv_iinc (v := nI (i + 1)) (lv' := [(6, .int (nI (i + 1))), (5, .int (sum + (A_jiC n_N n_J (fun j => ([upd wf (gt % n_N 0) (nI (gt / 8 % 10)), u_11 1, u_11 2, u_11 3, u_11 4, u_11 5, u_11 6] : List (Nat → Int32)).getD j hsz) (n_N 1)))), (7, .int (nI gt)), (4, .int ((at0 * 1103515245) + 12345)), (0, .ref h), (1, .int seed), (2, .int (nI N)), (3, .int what)]) hx hb dX7_drift_121 hl (k := 3) rfl (nI_add (i) 1) (Nat.le_of_ble_eq_true rfl) rfl (fun ls hl => ?_)
            refine lv_goto (tgt := 41) hx hb dX7_drift_124 rfl ?_
            exact ih41 ((at0 * 1103515245) + 12345, sum + (A_jiC n_N n_J (fun j => ([upd wf (gt % n_N 0) (nI (gt / 8 % 10)), u_11 1, u_11 2, u_11 3, u_11 4, u_11 5, u_11 6] : List (Nat → Int32)).getD j hsz) (n_N 1)), i + 1, (fun j => ([upd wf (gt % n_N 0) (nI (gt / 8 % 10)), u_11 1, u_11 2, u_11 3, u_11 4, u_11 5, u_11 6] : List (Nat → Int32)).getD j hsz) 0) (by (try dsimp only); have e9 := A_dw_s hI.2.1 hI.2.2.1 egt; exact ⟨by omega, e9.1, fun q h9 => e9.2 q h9, fun z9 => by rw [A_ds, hI.2.2.2 z9]; exact congrArg (fun z => A_ds (A_jdC n_N n_J n_F) (n_N 0) seed (n_F 0) i + z) (A_jiC_congr (show n_N 0 ≤ 8 by omega) (A_drG (fun q i h9 => hw_10 q i h9) e9.2) (n_N 1) (by omega))⟩) (by (try dsimp only); omega) _ _ _ hP hD hS (lv_sub hl [0, 1, 3, 4, 5, 6, 7] rfl)
      · (try dsimp only); exact ⟨Nat.zero_le _, rfl, fun q h1 => hw_10 0 q h1, fun _ => rfl⟩
    · refine lv_iconst (v := (-1)) hx hb dX7_drift_19 hki_m1 ?_
      exact hs_iret hx hb hr hlocks hK hP hD hS (tr_N, tr_J, (fun j => ([tr_F 0, tr_F 1, tr_F 2, tr_F 3, tr_F 4, tr_F 5, tr_F 6] : List (Nat → Int32)).getD j hsz)) [0, 1, 2, 3, 4, 5, 6, 7, 8, 9, 10, 11, 12, 13, 14, 15, 16] rfl (hs_upnd rfl) dX7_drift_20 ((by rw [A_driC, if_neg (by rw [hs_n0 c_8, Bool.and_false]; decide)]))

set_option maxHeartbeats 4000000 in
set_option maxRecDepth 100000 in
theorem gqf_drift (l : Launch) (D : va_G) (k : Nat → ClassId) (sz : Nat) (mo : Nat) (mo_st : Nat) (mo_at : Nat) (mo_isKept : Nat) (mo_pe : Nat) (mo_hm : Nat) (mo_draft : Nat) (mo_dp : Nat) (mo_dh : Nat) (mo_toldLines : Int32) (mo_highest : Int32) (mo_tape : Nat) (mo_tl : Nat) (mo_ps : Nat) (mo_fr : Nat) (mo_sort : Int32) (mo_value : Int32) (mo_ft : Nat) (mo_wrongAt : Int32) (mo_row : Nat) (mo_orderMany : Int32) (mo_fo : Nat) (mo_lightest : Int32) (mo_heaviest : Int32) (mo_before : Nat) (mo_justSum : Int64) (mo_toldSum : Int64) (mo_allWays : Int64) (mo_lanes : Nat) (mo_sizes : Nat) (mo_cells : Nat) (mo_torn : Int32) (mo_had : Nat) (sf : Nat → Int32) (c0 : Nat) (c3 : Nat) (c4 : Nat) (fi : Nat) (af : Nat → Int32) (seed : Int32) (n : Int32) (what : Int32) (e0 : sf 0 = nI c0) (h0 : c0 ≤ 8) (h02 : 2 ≤ c0) (e3 : sf 16 = nI c3) (h3 : c3 ≤ 8) (e4 : sf 25 = nI c4) (h4 : c4 ≤ 6) (hpe : mo_pe ≤ 4) (hm2 : 2 ≤ mo_hm) (hm5 : mo_hm ≤ 5) (ef : sf 14 = nI fi) (hfi : fi ≤ 99) (hsaw : ∀ i, i < c4 → vp_in (sf (26 + 3 * i)) 4) : MI l yX8_drift wsX8_drift ({ frames := 5, cells := 0, slots := 0, locals := 116 }) D k [.ref mo, .int seed, .int n, .int what] [oq7 mo mo_st mo_at mo_isKept (nI mo_pe) (nI mo_hm) mo_draft (nI mo_dp) (nI mo_dh) mo_toldLines mo_highest mo_tape (nI mo_tl) (nI mo_ps) (nI mo_fr) mo_sort mo_value (nI mo_ft) mo_wrongAt mo_row mo_orderMany (nI mo_fo) mo_lightest mo_heaviest mo_before mo_justSum mo_toldSum mo_allWays mo_lanes mo_sizes mo_cells mo_torn mo_had, oqI k mo_st 132 (sf), oqI k mo_at 44 (af)] sz (fun (r : Int32) (u : Nat → Int32) => r = A_driM c0 mo_pe sf seed n what) (fun (u : Nat → Int32) => [oq7 mo mo_st mo_at mo_isKept (nI mo_pe) (nI mo_hm) mo_draft (nI mo_dp) (nI mo_dh) mo_toldLines mo_highest mo_tape (nI mo_tl) (nI mo_ps) (nI mo_fr) mo_sort mo_value (nI mo_ft) mo_wrongAt mo_row mo_orderMany (nI mo_fo) mo_lightest mo_heaviest mo_before mo_justSum mo_toldSum mo_allWays mo_lanes mo_sizes mo_cells mo_torn mo_had, oqI k mo_st 132 (sf), oqI k mo_at 44 (u)]) := by
  refine Met.ofW (cc := cX8_drift) (maxL := 9) (ret := (some .int)) hpn_X8 rfl ?_
  intro p e s m args below meth c s₁ B hml hv
  obtain ⟨rfl, hsz, hP, hK, hD0, hN⟩ := hv
  have hx := B.exec
  have hb := B.bytes
  have hr := B.returns
  have hlocks := B.notSynchronized
  have hts := atoms_spec (ws := wsX8_drift) B.pre
  have hown := findClass_of_methodNamed B.named
  have hown : s.vm.findClass RX8 = some m.cls := hown
  have hiX8 : ∀ w ∈ u_ws RX8 TX8 32, w ∈ wsX8_drift := fun w9 hw9 => List.mem_cons_of_mem _ (igX8 w9 hw9)
  have fl13 := hts (.fieldLink RX8 13 "HalfScalesModel" "at" "[I") (List.mem_cons_of_mem _ (hs_inG 4 81 rfl rfl))
  have kl275 := hts (.constantLong RX8 275 (60)) (List.mem_cons_of_mem _ (hs_inG 6 0 rfl rfl))
  have kc277 := hts (.constant RX8 277 (1103515245)) (List.mem_cons_of_mem _ (hs_inG 6 1 rfl rfl))
  subst hsz
  have hD := hD0.self (sz := s.heap.size)
  generalize hAe : va_A [oq7 mo mo_st mo_at mo_isKept (nI mo_pe) (nI mo_hm) mo_draft (nI mo_dp) (nI mo_dh) mo_toldLines mo_highest mo_tape (nI mo_tl) (nI mo_ps) (nI mo_fr) mo_sort mo_value (nI mo_ft) mo_wrongAt mo_row mo_orderMany (nI mo_fo) mo_lightest mo_heaviest mo_before mo_justSum mo_toldSum mo_allWays mo_lanes mo_sizes mo_cells mo_torn mo_had, oqI k mo_st 132 (sf), oqI k mo_at 44 (af)] s.heap.size = A at hD ⊢
  have hA : ∀ q : Nat, s.heap.size ≤ q → A q := fun q h => by rw [← hAe]; exact Or.inr h
  have hS : va_S A s.heap s.heap [] := va_S.rf
  have hl := lv_entry ([.ref mo, .int seed, .int n, .int what]) (n := 9) (Nat.le_of_ble_eq_true rfl)
  rw [lg_entry_eq]
  generalize (lg_sl ([.ref mo, .int seed, .int n, .int what]) ++ List.replicate (9 - (lg_sl ([.ref mo, .int seed, .int n, .int what])).length) Slot.unset).toArray = ls at hl ⊢
  have hl : lv_has ls 9 [(0, .ref mo), (1, .int seed), (2, .int n), (3, .int what)] := hl
  have hP : va_P D vwCl [oq7 mo mo_st mo_at mo_isKept (nI mo_pe) (nI mo_hm) mo_draft (nI mo_dp) (nI mo_dh) mo_toldLines mo_highest mo_tape (nI mo_tl) (nI mo_ps) (nI mo_fr) mo_sort mo_value (nI mo_ft) mo_wrongAt mo_row mo_orderMany (nI mo_fo) mo_lightest mo_heaviest mo_before mo_justSum mo_toldSum mo_allWays mo_lanes mo_sizes mo_cells mo_torn mo_had, oqI k mo_st 132 (sf), oqI k mo_at 44 (af)] s.heap := hP
  refine lv_iload_n hx hb dX8_drift_0 rfl (lv_at hl 2 rfl) ?_
  refine lv_i2l hx hb dX8_drift_1 rfl ?_
  refine lv_lconst (v := 1) hx hb dX8_drift_2 (by decide) ?_
  refine lv_ldc2 hx hb hown kl275 dX8_drift_3 ?_
  refine hs_pi (va_runS (As := [.long (((n) : Int32).toInt64), .long 1, .long 60]) (rest := []) ⟨hx, hb, hml, hown, hts⟩ (gm_in l D k _ n 1 60) (va_cwS 3 hts gX8_drift_X8_in rfl rfl rfl hq_X8_in ⟨Nat.le_of_ble_eq_true rfl, Nat.le_of_ble_eq_true rfl⟩) (hs_preS hK hN (hs_subP (w := []) hP [] rfl) (hD.sub (ws' := []) [] rfl rfl)) rfl rfl hl.1 rfl (lv_room (Nat.le_of_ble_eq_true rfl)) dX8_drift_6 ⟨Nat.le_of_ble_eq_true rfl, Nat.le_of_ble_eq_true rfl⟩) hP hD hS hA (fun r_1 u_3 H locs hw_2 hP hS => ?_)
  refine hs_topi (hsb (hsin n 1 60)) hw_2 ?_
  refine lv_if_eq (tgt := 19) hx hb dX8_drift_9 rfl (fun c_4 => ?_) (fun c_4 => ?_)
  · refine lv_iconst (v := (-1)) hx hb dX8_drift_19 hki_m1 ?_
    exact hs_iret hx hb hr hlocks hK hP hD hS af [0, 1, 2] rfl (hs_upnd rfl) dX8_drift_20 ((by rw [A_driM, if_neg (by rw [hs_n0 c_4, Bool.false_and]; decide)]))
  · obtain ⟨N, hN60, rfl⟩ := hs_n60 (hs_nb c_4)
    refine lv_iload_n hx hb dX8_drift_12 rfl (lv_at hl 3 rfl) ?_
    refine hs_pi (va_runS (As := [.int what]) (rest := []) ⟨hx, hb, hml, hown, hts⟩ (gm_isPart l D k _ what) (va_cwS 1 hts gX8_drift_X8_isPart rfl rfl rfl hq_X8_isPart ⟨Nat.le_of_ble_eq_true rfl, Nat.le_of_ble_eq_true rfl⟩) (hs_preS hK hN (hs_subP (w := []) hP [] rfl) (hD.sub (ws' := []) [] rfl rfl)) rfl rfl hl.1 rfl (lv_room (Nat.le_of_ble_eq_true rfl)) dX8_drift_13 ⟨Nat.le_of_ble_eq_true rfl, Nat.le_of_ble_eq_true rfl⟩) hP hD hS hA (fun r_5 u_7 H locs hw_6 hP hS => ?_)
    refine hs_topi (hsb (hsin what 0 1)) hw_6 ?_
    refine lv_if_ne (tgt := 21) hx hb dX8_drift_16 rfl (fun c_8 => ?_) (fun c_8 => ?_)
    · refine lv_iload_n hx hb dX8_drift_21 rfl (lv_at hl 1 rfl) ?_
      refine lv_istore (lv' := [(4, .int seed), (0, .ref mo), (1, .int seed), (2, .int (nI N)), (3, .int what)]) hx hb dX8_drift_22 hl (Nat.le_of_ble_eq_true rfl) rfl (fun ls hl => ?_)
      refine lv_iconst (v := 0) hx hb dX8_drift_24 hki_0 ?_
      refine lv_istore (lv' := [(5, .int 0), (4, .int seed), (0, .ref mo), (1, .int seed), (2, .int (nI N)), (3, .int what)]) hx hb dX8_drift_25 hl (Nat.le_of_ble_eq_true rfl) rfl (fun ls hl => ?_)
      refine lv_aload_n hx hb dX8_drift_27 rfl (lv_at hl 2 rfl) ?_
      refine hs_cvM (va_runV (As := []) (rest := []) ⟨hx, hb, hml, hown, hts⟩ (gm_starts l D k _ mo mo_st mo_at mo_isKept mo_pe mo_hm mo_draft mo_dp mo_dh mo_toldLines mo_highest mo_tape mo_tl mo_ps mo_fr mo_sort mo_value mo_ft mo_wrongAt mo_row mo_orderMany mo_fo mo_lightest mo_heaviest mo_before mo_justSum mo_toldSum mo_allWays mo_lanes mo_sizes mo_cells mo_torn mo_had sf af) (cwV 0 hts gX8_drift_X8_starts rfl rfl rfl ⟨rfl, hq_X8_starts⟩ ⟨Nat.le_of_ble_eq_true rfl, Nat.le_of_ble_eq_true rfl⟩) (hs_preV hK hN (hs_subP (w := [_, _, _]) hP [0, 1, 2] rfl) (hD.sub (ws' := [_, _, _]) [0, 1, 2] (hs_upnd rfl) rfl) (ci := 7) (q0 := 0) rfl rfl) rfl rfl hl.1 rfl (lv_room (Nat.le_of_ble_eq_true rfl)) dX8_drift_28 ⟨Nat.le_of_ble_eq_true rfl, Nat.le_of_ble_eq_true rfl⟩) hP hD hS hA [false, false, false] [] [_, _, _] rfl [0, 1, 2] rfl [0, 1, 2] (fun u_11 => [_, _, _]) (fun _ => rfl) (hs_upnd rfl) [false, false, false] (fun u_11 => [_, _, _]) (fun _ => rfl) (fun u_11 H locs hw_10 hP hD hS => ?_)
      have hw_10 : ∀ j, j < 44 → u_11 j = sf j := hw_10
      have e0a : u_11 0 = nI c0 := (hw_10 0 (by decide)).trans e0
      have e3a : u_11 16 = nI c3 := (hw_10 16 (by decide)).trans e3
      have e4a : u_11 25 = nI c4 := (hw_10 25 (by decide)).trans e4
      have hw_10 : ∀ j, j < 44 → u_11 j = sf j := hw_10
      refine lv_iconst (v := 0) hx hb dX8_drift_31 hki_0 ?_
      refine lv_istore (lv' := [(6, .int 0), (5, .int 0), (4, .int seed), (0, .ref mo), (1, .int seed), (2, .int (nI N)), (3, .int what)]) hx hb dX8_drift_32 hl (Nat.le_of_ble_eq_true rfl) rfl (fun ls hl => ?_)
      refine hs_while (σ := Int32 × Int32 × Nat × (Nat → Int32)) (fun x => x.2.2.1 ≤ N ∧ x.1 = (A_dw c0 seed (A_w1 sf) x.2.2.1).1 ∧ (∀ q, q < 44 → x.2.2.2 q = A_gw sf (A_dw c0 seed (A_w1 sf) x.2.2.1).2 q) ∧ x.2.1 = A_ds (A_jdM c0 mo_pe sf) c0 seed (A_w1 sf) x.2.2.1) (fun x => N - x.2.2.1) (fun x => [oq7 mo mo_st mo_at mo_isKept (nI mo_pe) (nI mo_hm) mo_draft (nI mo_dp) (nI mo_dh) mo_toldLines mo_highest mo_tape (nI mo_tl) (nI mo_ps) (nI mo_fr) mo_sort mo_value (nI mo_ft) mo_wrongAt mo_row mo_orderMany (nI mo_fo) mo_lightest mo_heaviest mo_before mo_justSum mo_toldSum mo_allWays mo_lanes mo_sizes mo_cells mo_torn mo_had, oqI k mo_st 132 (sf), oqI k mo_at 44 ((x.2.2.2))]) (fun x => [(6, .int (nI (x.2.2.1))), (5, .int (x.2.1)), (4, .int (x.1)), (0, .ref mo), (1, .int seed), (2, .int (nI N)), (3, .int what)]) ?_ (seed, 0, 0, u_11) ?_ hP hD hS hl
      · intro x hI ih34 H locs ls hP hD hS hl
        obtain ⟨vv, sum, x6, ag⟩ := x
        try dsimp only at hI
        have hP : va_P D vwCl [_, _, oqI k mo_at 44 (ag)] H := hP
        have hD : va_D A [_, _, oqI k mo_at 44 (ag)] := hD
        have hl : lv_has ls 9 [(6, .int (nI x6)), (5, .int sum), (4, .int vv), (0, .ref mo), (1, .int seed), (2, .int (nI N)), (3, .int what)] := hl
        refine lv_iload hx hb dX8_drift_34 (lv_at hl 0 rfl) ?_
        refine lv_iload_n hx hb dX8_drift_36 rfl (lv_at hl 5 rfl) ?_
        refine lv_icmp_ge (tgt := 127) hx hb dX8_drift_37 rfl (fun c_12 => ?_) (fun c_12 => ?_)
        · have nc_12 : N ≤ x6 := (nI_leI (a := N) (b := x6) (by omega) (by omega)).mp c_12
          have e0h := (hI.2.2.1 0 (by omega)).trans (A_gw_0.trans e0)
          refine lv_iload_n hx hb dX8_drift_127 rfl (lv_at hl 6 rfl) ?_
          refine lv_if_ne (tgt := 136) hx hb dX8_drift_128 rfl (fun c_13 => ?_) (fun c_13 => ?_)
          · refine lv_aload_n hx hb dX8_drift_136 rfl (lv_at hl 3 rfl) ?_
            refine hs_ciM (va_runV (As := []) (rest := []) ⟨hx, hb, hml, hown, hts⟩ (gr_allWeights l D k _ mo mo_st mo_at mo_isKept mo_pe mo_hm mo_draft mo_dp mo_dh mo_toldLines mo_highest mo_tape mo_tl mo_ps mo_fr mo_sort mo_value mo_ft mo_wrongAt mo_row mo_orderMany mo_fo mo_lightest mo_heaviest mo_before mo_justSum mo_toldSum mo_allWays mo_lanes mo_sizes mo_cells mo_torn mo_had ag c0 e0h h0) (cwV 0 hts gX8_drift_X8_allWeights rfl rfl rfl ⟨rfl, hq_X8_allWeights⟩ ⟨Nat.le_of_ble_eq_true rfl, Nat.le_of_ble_eq_true rfl⟩) (hs_preV hK hN (hs_subP (w := [_, _]) hP [0, 2] rfl) (hD.sub (ws' := [_, _]) [0, 2] (hs_upnd rfl) rfl) (ci := 7) (q0 := 0) rfl rfl) rfl rfl hl.1 rfl (lv_room (Nat.le_of_ble_eq_true rfl)) dX8_drift_137 ⟨Nat.le_of_ble_eq_true rfl, Nat.le_of_ble_eq_true rfl⟩) hP hD hS hA [false, true, false] [_] [_, _] rfl [0, 1] rfl [0, 1] (fun u_16 => [_, _]) (fun _ => rfl) (hs_upnd rfl) [false, true, false] (fun u_16 => [_, _, _]) (fun _ => rfl) (fun r_14 u_16 H locs hw_15 hP hD hS => ?_)
            refine hs_topi (smW (fun j => ag (1 + j)) c0) hw_15 ?_
            exact hs_iret hx hb hr hlocks hK hP hD hS ag [0, 1, 2] rfl (hs_upnd rfl) dX8_drift_140 ((by rw [A_driM, if_pos (by rw [hs_nb c_4, hs_nb c_8]; rfl), nI_clamp (by omega), if_neg c_13, ← show x6 = N by omega]; exact smW_congr c0 (fun j9 h9 => (hI.2.2.1 (1 + j9) (by omega)).trans (A_gw_i (by omega)))))
          · refine lv_iload hx hb dX8_drift_131 (lv_at hl 1 rfl) ?_
            refine lv_goto (tgt := 140) hx hb dX8_drift_133 rfl ?_
            exact hs_iret hx hb hr hlocks hK hP hD hS ag [0, 1, 2] rfl (hs_upnd rfl) dX8_drift_140 ((by rw [A_driM, if_pos (by rw [hs_nb c_4, hs_nb c_8]; rfl), nI_clamp (by omega), if_pos c_13, ← show x6 = N by omega]; exact hI.2.2.2))
        · have nc_12 : ¬ N ≤ x6 := fun hq9 => c_12 ((nI_leI (a := N) (b := x6) (by omega) (by omega)).mpr hq9)
          refine lv_iload hx hb dX8_drift_40 (lv_at hl 2 rfl) ?_
          refine lv_ldcw hx hb hown kc277 dX8_drift_42 ?_
          refine lv_imul hx hb dX8_drift_45 ?_
          refine lv_sipush (v := 12345) hx hb dX8_drift_46 hkp_12345 ?_
          refine lv_iadd hx hb dX8_drift_49 ?_
          refine lv_istore (lv' := [(4, .int ((vv * 1103515245) + 12345)), (6, .int (nI x6)), (5, .int sum), (0, .ref mo), (1, .int seed), (2, .int (nI N)), (3, .int what)]) hx hb dX8_drift_50 hl (Nat.le_of_ble_eq_true rfl) rfl (fun ls hl => ?_)
          refine lv_iload hx hb dX8_drift_52 (lv_at hl 0 rfl) ?_
          refine lv_bipush (v := 16) hx hb dX8_drift_54 hkb_16 ?_
          refine lv_ishr hx hb dX8_drift_56 ?_
          refine lv_sipush (v := 32767) hx hb dX8_drift_57 hkp_32767 ?_
          refine lv_iand hx hb dX8_drift_60 ?_
          obtain ⟨gt, egt⟩ : ∃ g9, g9 = dr_m ((vv * 1103515245) + 12345) := ⟨_, rfl⟩
          have hgl : gt < 32768 := by rw [egt]; exact dr_lt _
          refine hs_topi (nI gt) (by rw [egt]; exact dr_sm _) ?_
          refine lv_istore (lv' := [(7, .int (nI gt)), (4, .int ((vv * 1103515245) + 12345)), (6, .int (nI x6)), (5, .int sum), (0, .ref mo), (1, .int seed), (2, .int (nI N)), (3, .int what)]) hx hb dX8_drift_61 hl (Nat.le_of_ble_eq_true rfl) rfl (fun ls hl => ?_)
          refine lv_aload_n hx hb dX8_drift_63 rfl (lv_at hl 4 rfl) ?_
          refine va_get (D := D) (ci := 7) (v := .ref mo_at) (C := RX8) (T := TX8) (N := 32) hx hb hts hiX8 hown hK hP 0 rfl rfl 1 (Nat.le_of_ble_eq_true rfl) fl13 (fun _ h9 => h9) rfl dX8_drift_64 ?_
          refine lv_iconst (v := 1) hx hb dX8_drift_67 hki_1 ?_
          refine lv_iload hx hb dX8_drift_68 (lv_at hl 0 rfl) ?_
          refine lv_aload_n hx hb dX8_drift_70 rfl (lv_at hl 4 rfl) ?_
          refine va_get (D := D) (ci := 7) (v := .ref mo_at) (C := RX8) (T := TX8) (N := 32) hx hb hts hiX8 hown hK hP 0 rfl rfl 1 (Nat.le_of_ble_eq_true rfl) fl13 (fun _ h9 => h9) rfl dX8_drift_71 ?_
          refine lv_iconst (v := 0) hx hb dX8_drift_74 hki_0 ?_
          refine va_iald hx hb hK hP 2 0 rfl rfl (hs_in (by decide)) dX8_drift_75 ?_
          refine hs_topi (nI c0) ((hI.2.2.1 0 (by omega)).trans (A_gw_0.trans e0)) ?_
          refine lv_irem hx hb dX8_drift_76 (nI_ne0 (by omega) (by omega)) ?_
          have hgm := Nat.mod_lt gt (show 0 < c0 by omega)
          refine hs_topi (nI (gt % c0)) (pk_rem (by omega) (by omega) (by omega)) ?_
          refine lv_iadd hx hb dX8_drift_77 ?_
          refine hs_topi (nI (1 + (gt % c0))) (nI_add (1) ((gt % c0))) ?_
          refine lv_iload hx hb dX8_drift_78 (lv_at hl 0 rfl) ?_
          refine lv_bipush (v := 8) hx hb dX8_drift_80 hkb_8 ?_
          refine lv_idiv hx hb dX8_drift_82 (by decide) ?_
          refine hs_topi (nI (gt / 8)) (show nI gt / 8 = nI (gt / 8) from pk_div (d := 8) (by omega) (by decide) (by decide)) ?_
          refine lv_bipush (v := 10) hx hb dX8_drift_83 hkb_10 ?_
          refine lv_irem hx hb dX8_drift_85 (by decide) ?_
          refine hs_topi (nI (gt / 8 % 10)) (show nI (gt / 8) - nI (gt / 8) / 10 * 10 = nI (gt / 8 % 10) from pk_rem (d := 10) (by omega) (by decide) (by decide)) ?_
          refine va_iast hx hb hK hP hD hS 2 0 rfl rfl (vp_in_nI (show (1 + (gt % c0)) < 44 by omega) (by decide)) dX8_drift_86 (fun H locs hP hD hS => ?_)
          have hE : upd ag ((nI (1 + (gt % c0))).toNatClampNeg) (nI (gt / 8 % 10)) = upd ag (1 + gt % c0) (nI (gt / 8 % 10)) := (by rw [nI_clamp (by omega)])
          have hP : va_P D vwCl [_, _, oqI k mo_at 44 (upd ag ((nI (1 + (gt % c0))).toNatClampNeg) (nI (gt / 8 % 10)))] H := hP
          have hD : va_D A [_, _, oqI k mo_at 44 (upd ag ((nI (1 + (gt % c0))).toNatClampNeg) (nI (gt / 8 % 10)))] := hD
          rw [hE] at hP hD
          have hJ := hI
          have hJ9 := A_gw_s (show 0 < c0 by omega) (show c0 ≤ 8 by omega) hI.2.1 hI.2.2.1 egt
          have e0g := (hJ9.2 0 (by omega)).trans (A_gw_0.trans e0)
          refine lv_iconst (v := 1) hx hb dX8_drift_87 hki_1 ?_
          refine lv_istore (lv' := [(8, .int 1), (7, .int (nI gt)), (4, .int ((vv * 1103515245) + 12345)), (6, .int (nI x6)), (5, .int sum), (0, .ref mo), (1, .int seed), (2, .int (nI N)), (3, .int what)]) hx hb dX8_drift_88 hl (Nat.le_of_ble_eq_true rfl) rfl (fun ls hl => ?_)
          refine hs_while (σ := Int32 × Nat) (fun x => 1 ≤ x.2 ∧ x.2 - 1 ≤ c0 - 1 ∧ x.1 = sum + A_sc (A_jiM c0 mo_pe (A_gw sf (A_dw c0 seed (A_w1 sf) (x6 + 1)).2)) (x.2 - 1)) (fun x => c0 + 1 - x.2) (fun x => [oq7 mo mo_st mo_at mo_isKept (nI mo_pe) (nI mo_hm) mo_draft (nI mo_dp) (nI mo_dh) mo_toldLines mo_highest mo_tape (nI mo_tl) (nI mo_ps) (nI mo_fr) mo_sort mo_value (nI mo_ft) mo_wrongAt mo_row mo_orderMany (nI mo_fo) mo_lightest mo_heaviest mo_before mo_justSum mo_toldSum mo_allWays mo_lanes mo_sizes mo_cells mo_torn mo_had, oqI k mo_st 132 (sf), oqI k mo_at 44 (upd ag (1 + gt % c0) (nI (gt / 8 % 10)))]) (fun x => [(8, .int (nI (x.2))), (7, .int (nI gt)), (4, .int ((vv * 1103515245) + 12345)), (6, .int (nI x6)), (5, .int (x.1)), (0, .ref mo), (1, .int seed), (2, .int (nI N)), (3, .int what)]) ?_ (sum, 1) ?_ hP hD hS hl
          · intro x hI ih90 H locs ls hP hD hS hl
            obtain ⟨sum2, x8⟩ := x
            try dsimp only at hI
            have hP : va_P D vwCl [_, _, oqI k mo_at 44 (upd ag (1 + gt % c0) (nI (gt / 8 % 10)))] H := hP
            have hD : va_D A [_, _, oqI k mo_at 44 (upd ag (1 + gt % c0) (nI (gt / 8 % 10)))] := hD
            have hl : lv_has ls 9 [(8, .int (nI x8)), (7, .int (nI gt)), (4, .int ((vv * 1103515245) + 12345)), (6, .int (nI x6)), (5, .int sum2), (0, .ref mo), (1, .int seed), (2, .int (nI N)), (3, .int what)] := hl
            refine lv_iload hx hb dX8_drift_90 (lv_at hl 0 rfl) ?_
            refine lv_aload_n hx hb dX8_drift_92 rfl (lv_at hl 5 rfl) ?_
            refine va_get (D := D) (ci := 7) (v := .ref mo_at) (C := RX8) (T := TX8) (N := 32) hx hb hts hiX8 hown hK hP 0 rfl rfl 1 (Nat.le_of_ble_eq_true rfl) fl13 (fun _ h9 => h9) rfl dX8_drift_93 ?_
            refine lv_iconst (v := 0) hx hb dX8_drift_96 hki_0 ?_
            refine va_iald hx hb hK hP 2 0 rfl rfl (hs_in (by decide)) dX8_drift_97 ?_
            refine hs_topi (nI c0) e0g ?_
            refine lv_icmp_ge (tgt := 121) hx hb dX8_drift_98 rfl (fun c_17 => ?_) (fun c_17 => ?_)
            · have nc_17 : c0 ≤ x8 := (nI_leI (a := c0) (b := x8) (by omega) (by omega)).mp c_17
              refine lv_iinc (v := nI (x6 + 1)) (lv' := [(6, .int (nI (x6 + 1))), (8, .int (nI x8)), (7, .int (nI gt)), (4, .int ((vv * 1103515245) + 12345)), (5, .int sum2), (0, .ref mo), (1, .int seed), (2, .int (nI N)), (3, .int what)]) hx hb dX8_drift_121 hl (k := 3) rfl (nI_add (x6) 1) (Nat.le_of_ble_eq_true rfl) rfl (fun ls hl => ?_)
              refine lv_goto (tgt := 34) hx hb dX8_drift_124 rfl ?_
              exact ih34 ((vv * 1103515245) + 12345, sum2, x6 + 1, upd ag (1 + gt % c0) (nI (gt / 8 % 10))) (by (try dsimp only); exact ⟨by omega, hJ9.1, fun q h9 => hJ9.2 q h9, by rw [A_ds, ← hJ.2.2.2, hI.2.2, show x8 - 1 = c0 - 1 by omega]; (try rfl)⟩) (by (try dsimp only); omega) _ _ _ hP hD hS (lv_sub hl [0, 4, 3, 5, 6, 7, 8] rfl)
            · have nc_17 : ¬ c0 ≤ x8 := fun hq9 => c_17 ((nI_leI (a := c0) (b := x8) (by omega) (by omega)).mpr hq9)
              refine lv_iload hx hb dX8_drift_101 (lv_at hl 4 rfl) ?_
              refine lv_aload_n hx hb dX8_drift_103 rfl (lv_at hl 5 rfl) ?_
              refine lv_iload hx hb dX8_drift_104 (lv_at hl 0 rfl) ?_
              refine hs_ciM (va_runV (As := [.int (nI x8)]) (rest := [.int sum2]) ⟨hx, hb, hml, hown, hts⟩ (gr_justTo l D k _ mo mo_st mo_at mo_isKept mo_pe mo_hm mo_draft mo_dp mo_dh mo_toldLines mo_highest mo_tape mo_tl mo_ps mo_fr mo_sort mo_value mo_ft mo_wrongAt mo_row mo_orderMany mo_fo mo_lightest mo_heaviest mo_before mo_justSum mo_toldSum mo_allWays mo_lanes mo_sizes mo_cells mo_torn mo_had (upd ag (1 + gt % c0) (nI (gt / 8 % 10))) c0 (nI x8) e0g h0 hpe) (cwV 1 hts gX8_drift_X8_justTo rfl rfl rfl ⟨rfl, hq_X8_justTo⟩ ⟨Nat.le_of_ble_eq_true rfl, Nat.le_of_ble_eq_true rfl⟩) (hs_preV hK hN (hs_subP (w := [_, _]) hP [0, 2] rfl) (hD.sub (ws' := [_, _]) [0, 2] (hs_upnd rfl) rfl) (ci := 7) (q0 := 0) rfl rfl) rfl rfl hl.1 rfl (lv_room (Nat.le_of_ble_eq_true rfl)) dX8_drift_106 ⟨Nat.le_of_ble_eq_true rfl, Nat.le_of_ble_eq_true rfl⟩) hP hD hS hA [false, true, false] [_] [_, _] rfl [0, 1] rfl [0, 1] (fun u_20 => [_, _]) (fun _ => rfl) (hs_upnd rfl) [false, true, false] (fun u_20 => [_, _, _]) (fun _ => rfl) (fun r_18 u_20 H locs hw_19 hP hD hS => ?_)
              refine hs_topi (A_jt (A_vfm c0 (upd ag (1 + gt % c0) (nI (gt / 8 % 10))) (nI x8)) mo_pe) hw_19 ?_
              refine hs_pi (va_runS (As := [.int (A_jt (A_vfm c0 (upd ag (1 + gt % c0) (nI (gt / 8 % 10))) (nI x8)) mo_pe)]) (rest := [.int sum2]) ⟨hx, hb, hml, hown, hts⟩ (gr_bitsOf l D k _ (A_jt (A_vfm c0 (upd ag (1 + gt % c0) (nI (gt / 8 % 10))) (nI x8)) mo_pe)) (va_cwS 1 hts gX8_drift_X8_bitsOf rfl rfl rfl hq_X8_bitsOf ⟨Nat.le_of_ble_eq_true rfl, Nat.le_of_ble_eq_true rfl⟩) (hs_preS hK hN (hs_subP (w := []) hP [] rfl) (hD.sub (ws' := []) [] rfl rfl)) rfl rfl hl.1 rfl (lv_room (Nat.le_of_ble_eq_true rfl)) dX8_drift_109 ⟨Nat.le_of_ble_eq_true rfl, Nat.le_of_ble_eq_true rfl⟩) hP hD hS hA (fun r_21 u_23 H locs hw_22 hP hS => ?_)
              refine hs_topi (A_bo (A_jt (A_vfm c0 (upd ag (1 + gt % c0) (nI (gt / 8 % 10))) (nI x8)) mo_pe) 8) hw_22 ?_
              refine lv_iadd hx hb dX8_drift_112 ?_
              refine lv_istore (lv' := [(5, .int (sum2 + (A_bo (A_jt (A_vfm c0 (upd ag (1 + gt % c0) (nI (gt / 8 % 10))) (nI x8)) mo_pe) 8))), (8, .int (nI x8)), (7, .int (nI gt)), (4, .int ((vv * 1103515245) + 12345)), (6, .int (nI x6)), (0, .ref mo), (1, .int seed), (2, .int (nI N)), (3, .int what)]) hx hb dX8_drift_113 hl (Nat.le_of_ble_eq_true rfl) rfl (fun ls hl => ?_)
              refine lv_iinc (v := nI (x8 + 1)) (lv' := [(8, .int (nI (x8 + 1))), (5, .int (sum2 + (A_bo (A_jt (A_vfm c0 (upd ag (1 + gt % c0) (nI (gt / 8 % 10))) (nI x8)) mo_pe) 8))), (7, .int (nI gt)), (4, .int ((vv * 1103515245) + 12345)), (6, .int (nI x6)), (0, .ref mo), (1, .int seed), (2, .int (nI N)), (3, .int what)]) hx hb dX8_drift_115 hl (k := 1) rfl (nI_add (x8) 1) (Nat.le_of_ble_eq_true rfl) rfl (fun ls hl => ?_)
              refine lv_goto (tgt := 90) hx hb dX8_drift_118 rfl ?_
              exact ih90 (sum2 + (A_bo (A_jt (A_vfm c0 (upd ag (1 + gt % c0) (nI (gt / 8 % 10))) (nI x8)) mo_pe) 8), x8 + 1) (by (try dsimp only); exact ⟨by omega, by omega, by rw [A_sc_s hI.1, hI.2.2, Int32.add_assoc]; exact congrArg (fun z => sum + (A_sc (A_jiM c0 mo_pe (A_gw sf (A_dw c0 seed (A_w1 sf) (x6 + 1)).2)) (x8 - 1) + z)) (A_miM_congr (by omega) (by omega) (fun q hq => hJ9.2 q hq) x8)⟩) (by (try dsimp only); omega) _ _ _ hP hD hS (lv_sub hl [0, 2, 3, 4, 1, 5, 6, 7, 8] rfl)
          · (try dsimp only); exact ⟨by decide, by omega, (Int32.add_zero _).symm⟩
      · (try dsimp only); exact ⟨Nat.zero_le _, rfl, fun q h1 => (hw_10 q h1).trans (A_gw_id q).symm, rfl⟩
    · refine lv_iconst (v := (-1)) hx hb dX8_drift_19 hki_m1 ?_
      exact hs_iret hx hb hr hlocks hK hP hD hS af [0, 1, 2] rfl (hs_upnd rfl) dX8_drift_20 ((by rw [A_driM, if_neg (by rw [hs_n0 c_8, Bool.and_false]; decide)]))
