set_option maxHeartbeats 4000000 in
set_option maxRecDepth 100000 in
theorem gp_fits (l : Launch) (D : va_G) (k : Nat → ClassId) (sz : Nat) (h : Nat) (h_now : Nat) (h_trial : Nat) (h_images : Nat) (h_imageThere : Nat) (h_teller : Nat) (h_ranks : Nat) (h_court : Nat) (h_sheets : Nat) (h_lf : Int32) (h_lt : Int32) (n_a : Nat → Nat) (n_N : Nat → Nat) (n_J : Nat → Int32) (n_F : Nat → Nat → Int32) (tr_a : Nat → Nat) (tr_N : Nat → Nat) (tr_J : Nat → Int32) (tr_F : Nat → Nat → Int32) (i : Int32) (hN0 : thN n_N) (hF : thF n_N n_F) (h2 : 2 ≤ n_N 0) : MI l yX7_fits wsX7_fits ({ frames := 4, cells := 0, slots := 0, locals := 94 }) D k [.ref h, .int i] [oq6 h h_now h_trial h_images h_imageThere h_teller h_ranks h_court h_sheets h_lf h_lt, oqT h_now n_a n_N n_J, oqF0 k n_a n_F, oqF1 k n_a n_F, oqF2 k n_a n_F, oqF3 k n_a n_F, oqF4 k n_a n_F, oqF5 k n_a n_F, oqF6 k n_a n_F, oqT h_trial tr_a tr_N tr_J, oqF0 k tr_a tr_F, oqF1 k tr_a tr_F, oqF2 k tr_a tr_F, oqF3 k tr_a tr_F, oqF4 k tr_a tr_F, oqF5 k tr_a tr_F, oqF6 k tr_a tr_F] sz (fun (r : Int32) (u : (Nat → Nat) × (Nat → Int32) × (Nat → Nat → Int32)) => True) (fun (u : (Nat → Nat) × (Nat → Int32) × (Nat → Nat → Int32)) => [oq6 h h_now h_trial h_images h_imageThere h_teller h_ranks h_court h_sheets h_lf h_lt, oqT h_now n_a n_N n_J, oqF0 k n_a n_F, oqF1 k n_a n_F, oqF2 k n_a n_F, oqF3 k n_a n_F, oqF4 k n_a n_F, oqF5 k n_a n_F, oqF6 k n_a n_F, oqT h_trial tr_a u.1 u.2.1, oqF0 k tr_a u.2.2, oqF1 k tr_a u.2.2, oqF2 k tr_a u.2.2, oqF3 k tr_a u.2.2, oqF4 k tr_a u.2.2, oqF5 k tr_a u.2.2, oqF6 k tr_a u.2.2]) := by
  refine Met.ofW (cc := cX7_fits) (maxL := 4) (ret := (some .int)) hpn_X7 rfl ?_
  intro p e s m args below meth c s₁ B hml hv
  obtain ⟨rfl, hsz, hP, hK, hD0, hN⟩ := hv
  have hx := B.exec
  have hb := B.bytes
  have hr := B.returns
  have hlocks := B.notSynchronized
  have hts := atoms_spec (ws := wsX7_fits) B.pre
  have hown := findClass_of_methodNamed B.named
  have hown : s.vm.findClass RX7 = some m.cls := hown
  have hiX6 : ∀ w ∈ u_ws RX6 TX6 15, w ∈ wsX7_fits := fun w9 hw9 => List.mem_cons_of_mem _ (igX6 w9 hw9)
  have hiX7 : ∀ w ∈ u_ws RX7 TX7 10, w ∈ wsX7_fits := fun w9 hw9 => List.mem_cons_of_mem _ (igX7 w9 hw9)
  have fl10 := hts (.fieldLink RX7 10 "HalfScales" "now" "LHalfScales$Thing;") (List.mem_cons_of_mem _ (hs_inG 1 215 rfl rfl))
  have fl16 := hts (.fieldLink RX7 16 "HalfScales" "trial" "LHalfScales$Thing;") (List.mem_cons_of_mem _ (hs_inG 1 216 rfl rfl))
  have fl122 := hts (.fieldLink RX7 122 "HalfScales$Thing" "weights" "[I") (List.mem_cons_of_mem _ (hs_inG 1 36 rfl rfl))
  have hNn := hN0
  obtain ⟨I0, I1, ⟨I2, I2b⟩, I3, I4⟩ := hN0
  subst hsz
  have hD := hD0.self (sz := s.heap.size)
  generalize hAe : va_A [oq6 h h_now h_trial h_images h_imageThere h_teller h_ranks h_court h_sheets h_lf h_lt, oqT h_now n_a n_N n_J, oqF0 k n_a n_F, oqF1 k n_a n_F, oqF2 k n_a n_F, oqF3 k n_a n_F, oqF4 k n_a n_F, oqF5 k n_a n_F, oqF6 k n_a n_F, oqT h_trial tr_a tr_N tr_J, oqF0 k tr_a tr_F, oqF1 k tr_a tr_F, oqF2 k tr_a tr_F, oqF3 k tr_a tr_F, oqF4 k tr_a tr_F, oqF5 k tr_a tr_F, oqF6 k tr_a tr_F] s.heap.size = A at hD ⊢
  have hA : ∀ q : Nat, s.heap.size ≤ q → A q := fun q h => by rw [← hAe]; exact Or.inr h
  have hS : va_S A s.heap s.heap [] := va_S.rf
  have hl := lv_entry ([.ref h, .int i]) (n := 4) (Nat.le_of_ble_eq_true rfl)
  rw [lg_entry_eq]
  generalize (lg_sl ([.ref h, .int i]) ++ List.replicate (4 - (lg_sl ([.ref h, .int i])).length) Slot.unset).toArray = ls at hl ⊢
  have hl : lv_has ls 4 [(0, .ref h), (1, .int i)] := hl
  have hP : va_P D vwCl [oq6 h h_now h_trial h_images h_imageThere h_teller h_ranks h_court h_sheets h_lf h_lt, oqT h_now n_a n_N n_J, oqF0 k n_a n_F, oqF1 k n_a n_F, oqF2 k n_a n_F, oqF3 k n_a n_F, oqF4 k n_a n_F, oqF5 k n_a n_F, oqF6 k n_a n_F, oqT h_trial tr_a tr_N tr_J, oqF0 k tr_a tr_F, oqF1 k tr_a tr_F, oqF2 k tr_a tr_F, oqF3 k tr_a tr_F, oqF4 k tr_a tr_F, oqF5 k tr_a tr_F, oqF6 k tr_a tr_F] s.heap := hP
  refine lv_aload_n hx hb dX7_fits_0 rfl (lv_at hl 0 rfl) ?_
  refine va_get (D := D) (ci := 6) (v := .ref h_now) (C := RX7) (T := TX7) (N := 10) hx hb hts hiX7 hown hK hP 0 rfl rfl 0 (Nat.le_of_ble_eq_true rfl) fl10 (fun _ h9 => h9) rfl dX7_fits_1 ?_
  refine lv_iload_n hx hb dX7_fits_4 rfl (lv_at hl 1 rfl) ?_
  refine hs_ciM (va_runV (As := [.int i]) (rest := []) ⟨hx, hb, hml, hown, hts⟩ (g_isCell l D k _ h_now n_a n_N n_J i (by first | assumption | exact ⟨by first | omega | (dsimp; omega), by first | omega | (dsimp; omega), ⟨by first | omega | (dsimp; omega), by first | omega | (dsimp; omega)⟩, by first | omega | (dsimp; omega), by first | omega | (dsimp; omega)⟩)) (cwV 1 hts gX7_fits_X6_isCell rfl rfl rfl ⟨rfl, hq_X6_isCell⟩ ⟨Nat.le_of_ble_eq_true rfl, Nat.le_of_ble_eq_true rfl⟩) (hs_preV hK hN (hs_subP (w := [_]) hP [1] rfl) (hD.sub (ws' := [_]) [1] (hs_upnd rfl) rfl) (ci := 5) (q0 := 0) rfl rfl) rfl rfl hl.1 rfl (lv_room (Nat.le_of_ble_eq_true rfl)) dX7_fits_5 ⟨Nat.le_of_ble_eq_true rfl, Nat.le_of_ble_eq_true rfl⟩) hP hD hS hA [true, false, true, true, true, true, true, true, true, true, true, true, true, true, true, true, true] [_, _, _, _, _, _, _, _, _, _, _, _, _, _, _, _] [_] rfl [0] rfl [0] (fun u_3 => [_]) (fun _ => rfl) (hs_upnd rfl) [true, false, true, true, true, true, true, true, true, true, true, true, true, true, true, true, true] (fun u_3 => [_, _, _, _, _, _, _, _, _, _, _, _, _, _, _, _, _]) (fun _ => rfl) (fun r_1 u_3 H locs hw_2 hP hD hS => ?_)
  refine hs_topi (hsb (hslt i (n_N 0))) hw_2 ?_
  refine lv_if_ne (tgt := 13) hx hb dX7_fits_8 rfl (fun c_4 => ?_) (fun c_4 => ?_)
  · obtain ⟨j_5, hj_5, rfl⟩ := hslt_ex (hs_nb c_4)
    refine lv_aload_n hx hb dX7_fits_13 rfl (lv_at hl 0 rfl) ?_
    refine va_get (D := D) (ci := 6) (v := .ref h_trial) (C := RX7) (T := TX7) (N := 10) hx hb hts hiX7 hown hK hP 0 rfl rfl 1 (Nat.le_of_ble_eq_true rfl) fl16 (fun _ h9 => h9) rfl dX7_fits_14 ?_
    refine lv_aload_n hx hb dX7_fits_17 rfl (lv_at hl 0 rfl) ?_
    refine va_get (D := D) (ci := 6) (v := .ref h_now) (C := RX7) (T := TX7) (N := 10) hx hb hts hiX7 hown hK hP 0 rfl rfl 0 (Nat.le_of_ble_eq_true rfl) fl10 (fun _ h9 => h9) rfl dX7_fits_18 ?_
    refine hs_cvM (va_runV (As := [.ref h_now]) (rest := []) ⟨hx, hb, hml, hown, hts⟩ (g_copyFrom l D k _ h_trial tr_a tr_N tr_J tr_F h_now n_a n_N n_J n_F) (cwV 1 hts gX7_fits_X6_copyFrom rfl rfl rfl ⟨rfl, hq_X6_copyFrom⟩ ⟨Nat.le_of_ble_eq_true rfl, Nat.le_of_ble_eq_true rfl⟩) (hs_preV hK hN (hs_subP (w := [_, _, _, _, _, _, _, _, _, _, _, _, _, _, _, _]) hP [9, 10, 11, 12, 13, 14, 15, 16, 1, 2, 3, 4, 5, 6, 7, 8] rfl) (hD.sub (ws' := [_, _, _, _, _, _, _, _, _, _, _, _, _, _, _, _]) [9, 10, 11, 12, 13, 14, 15, 16, 1, 2, 3, 4, 5, 6, 7, 8] (by decide +kernel) rfl) (ci := 5) (q0 := 0) rfl rfl) rfl rfl hl.1 rfl (lv_room (Nat.le_of_ble_eq_true rfl)) dX7_fits_21 ⟨Nat.le_of_ble_eq_true rfl, Nat.le_of_ble_eq_true rfl⟩) hP hD hS hA [true, false, false, false, false, false, false, false, false, false, false, false, false, false, false, false, false] [_] [_, _, _, _, _, _, _, _, _, _, _, _, _, _, _, _] rfl [8, 9, 10, 11, 12, 13, 14, 15, 0, 1, 2, 3, 4, 5, 6, 7] rfl [8, 9, 10, 11, 12, 13, 14, 15, 0, 1, 2, 3, 4, 5, 6, 7] (fun u_8 => [_, _, _, _, _, _, _, _, _, _, _, _, _, _, _, _]) (fun _ => rfl) (by decide +kernel) [true, false, false, false, false, false, false, false, false, false, false, false, false, false, false, false, false] (fun u_8 => [_, _, _, _, _, _, _, _, _, _, _, _, _, _, _, _, _]) (fun _ => rfl) (fun u_8 H locs hw_7 hP hD hS => ?_)
    have hw_7 : ∀ q i, i < hs7 q → u_8 q i = n_F q i := hw_7
    refine lv_iconst (v := 0) hx hb dX7_fits_24 hki_0 ?_
    refine lv_istore_n (lv' := [(2, .int 0), (0, .ref h), (1, .int (nI j_5))]) hx hb dX7_fits_25 rfl hl (Nat.le_of_ble_eq_true rfl) rfl (fun ls hl => ?_)
    refine lv_iconst (v := 0) hx hb dX7_fits_26 hki_0 ?_
    refine lv_istore_n (lv' := [(3, .int 0), (2, .int 0), (0, .ref h), (1, .int (nI j_5))]) hx hb dX7_fits_27 rfl hl (Nat.le_of_ble_eq_true rfl) rfl (fun ls hl => ?_)
    refine hs_while (σ := Int32 × Nat × (Nat → Int32)) (fun x => x.2.1 ≤ 10) (fun x => 10 - x.2.1) (fun x => [oq6 h h_now h_trial h_images h_imageThere h_teller h_ranks h_court h_sheets h_lf h_lt, oqT h_now n_a n_N n_J, oqF0 k n_a n_F, oqF1 k n_a n_F, oqF2 k n_a n_F, oqF3 k n_a n_F, oqF4 k n_a n_F, oqF5 k n_a n_F, oqF6 k n_a n_F, oqT h_trial tr_a n_N n_J, oqI k (tr_a 0) 8 ((x.2.2)), oqF1 k tr_a u_8, oqF2 k tr_a u_8, oqF3 k tr_a u_8, oqF4 k tr_a u_8, oqF5 k tr_a u_8, oqF6 k tr_a u_8]) (fun x => [(3, .int (nI (x.2.1))), (2, .int (x.1)), (0, .ref h), (1, .int (nI j_5))]) ?_ (0, 0, u_8 0) ?_ hP hD hS hl
    · intro x hI ih28 H locs ls hP hD hS hl
      obtain ⟨fo, v, wf⟩ := x
      try dsimp only at hI
      have hP : va_P D vwCl [_, _, _, _, _, _, _, _, _, _, oqI k (tr_a 0) 8 (wf), _, _, _, _, _, _] H := hP
      have hD : va_D A [_, _, _, _, _, _, _, _, _, _, oqI k (tr_a 0) 8 (wf), _, _, _, _, _, _] := hD
      have hl : lv_has ls 4 [(3, .int (nI v)), (2, .int fo), (0, .ref h), (1, .int (nI j_5))] := hl
      refine lv_iload_n hx hb dX7_fits_28 rfl (lv_at hl 0 rfl) ?_
      refine lv_bipush (v := 9) hx hb dX7_fits_29 hkb_9 ?_
      refine lv_icmp_gt (tgt := 66) hx hb dX7_fits_31 rfl (fun c_9 => ?_) (fun c_9 => ?_)
      · have nc_9 : 9 < v := (nI_ltI (a := 9) (b := v) (by omega) (by omega)).mp c_9
        refine lv_iload_n hx hb dX7_fits_66 rfl (lv_at hl 1 rfl) ?_
        exact hs_iret hx hb hr hlocks hK hP hD hS (n_N, n_J, (fun j => ([wf, u_8 1, u_8 2, u_8 3, u_8 4, u_8 5, u_8 6] : List (Nat → Int32)).getD j hsz)) [0, 1, 2, 3, 4, 5, 6, 7, 8, 9, 10, 11, 12, 13, 14, 15, 16] rfl (hs_upnd rfl) dX7_fits_67 (trivial)
      · have nc_9 : ¬ 9 < v := fun hq9 => c_9 ((nI_ltI (a := 9) (b := v) (by omega) (by omega)).mpr hq9)
        refine lv_aload_n hx hb dX7_fits_34 rfl (lv_at hl 2 rfl) ?_
        refine va_get (D := D) (ci := 6) (v := .ref h_trial) (C := RX7) (T := TX7) (N := 10) hx hb hts hiX7 hown hK hP 0 rfl rfl 1 (Nat.le_of_ble_eq_true rfl) fl16 (fun _ h9 => h9) rfl dX7_fits_35 ?_
        refine va_get (D := D) (ci := 5) (v := .ref (tr_a 0)) (C := RX6) (T := TX6) (N := 15) hx hb hts hiX6 hown hK hP 9 rfl rfl 0 (Nat.le_of_ble_eq_true rfl) fl122 (fun _ h9 => h9) rfl dX7_fits_38 ?_
        refine lv_iload_n hx hb dX7_fits_41 rfl (lv_at hl 3 rfl) ?_
        refine lv_iload_n hx hb dX7_fits_42 rfl (lv_at hl 0 rfl) ?_
        refine va_iast hx hb hK hP hD hS 10 0 rfl rfl (vp_in_nI (show j_5 < 8 by omega) (by decide)) dX7_fits_43 (fun H locs hP hD hS => ?_)
        have hP : va_P D vwCl [_, _, _, _, _, _, _, _, _, _, oqI k (tr_a 0) 8 (upd wf ((nI j_5).toNatClampNeg) (nI v)), _, _, _, _, _, _] H := hP
        have hD : va_D A [_, _, _, _, _, _, _, _, _, _, oqI k (tr_a 0) 8 (upd wf ((nI j_5).toNatClampNeg) (nI v)), _, _, _, _, _, _] := hD
        refine lv_aload_n hx hb dX7_fits_44 rfl (lv_at hl 2 rfl) ?_
        refine va_get (D := D) (ci := 6) (v := .ref h_trial) (C := RX7) (T := TX7) (N := 10) hx hb hts hiX7 hown hK hP 0 rfl rfl 1 (Nat.le_of_ble_eq_true rfl) fl16 (fun _ h9 => h9) rfl dX7_fits_45 ?_
        refine hs_ciM (va_runV (As := []) (rest := []) ⟨hx, hb, hml, hown, hts⟩ (g_isAsSeen l D k _ h_trial tr_a n_N n_J (fun j => ([upd wf ((nI j_5).toNatClampNeg) (nI v), u_8 1, u_8 2, u_8 3, u_8 4, u_8 5, u_8 6] : List (Nat → Int32)).getD j hsz) (by first | assumption | exact ⟨by first | omega | (dsimp; omega), by first | omega | (dsimp; omega), ⟨by first | omega | (dsimp; omega), by first | omega | (dsimp; omega)⟩, by first | omega | (dsimp; omega), by first | omega | (dsimp; omega)⟩) ⟨fun i hi => by show vp_in (u_8 3 i) 5; rw [hw_7 3 i (show i < 8 by omega)]; exact hF.1 i hi, fun i hi => by show vp_in (u_8 4 i) 4; rw [hw_7 4 i (show i < 6 by omega)]; exact hF.2 i hi⟩) (cwV 0 hts gX7_fits_X6_isAsSeen rfl rfl rfl ⟨rfl, hq_X6_isAsSeen⟩ ⟨Nat.le_of_ble_eq_true rfl, Nat.le_of_ble_eq_true rfl⟩) (hs_preV hK hN (hs_subP (w := [_, _, _, _, _, _, _, _]) hP [9, 10, 11, 12, 13, 14, 15, 16] rfl) (hD.sub (ws' := [_, _, _, _, _, _, _, _]) [9, 10, 11, 12, 13, 14, 15, 16] (hs_upnd rfl) rfl) (ci := 5) (q0 := 0) rfl rfl) rfl rfl hl.1 rfl (lv_room (Nat.le_of_ble_eq_true rfl)) dX7_fits_48 ⟨Nat.le_of_ble_eq_true rfl, Nat.le_of_ble_eq_true rfl⟩) hP hD hS hA [true, true, true, true, true, true, true, true, true, false, false, false, false, false, false, false, false] [_, _, _, _, _, _, _, _, _] [_, _, _, _, _, _, _, _] rfl [0, 1, 2, 3, 4, 5, 6, 7] rfl [0, 1, 2, 3, 4, 5, 6, 7] (fun u_12 => [_, _, _, _, _, _, _, _]) (fun _ => rfl) (hs_upnd rfl) [true, true, true, true, true, true, true, true, true, false, false, false, false, false, false, false, false] (fun u_12 => [_, _, _, _, _, _, _, _, _, _, _, _, _, _, _, _, _]) (fun _ => rfl) (fun r_10 u_12 H locs hw_11 hP hD hS => ?_)
        refine lv_if_eq (tgt := 60) hx hb dX7_fits_51 rfl (fun c_13 => ?_) (fun c_13 => ?_)
        · refine lv_iinc (v := nI (v + 1)) (lv' := [(3, .int (nI (v + 1))), (2, .int fo), (0, .ref h), (1, .int (nI j_5))]) hx hb dX7_fits_60 hl (k := 0) rfl (nI_add (v) 1) (Nat.le_of_ble_eq_true rfl) rfl (fun ls hl => ?_)
          refine lv_goto (tgt := 28) hx hb dX7_fits_63 rfl ?_
          exact ih28 (fo, v + 1, (fun j => ([upd wf ((nI j_5).toNatClampNeg) (nI v), u_8 1, u_8 2, u_8 3, u_8 4, u_8 5, u_8 6] : List (Nat → Int32)).getD j hsz) 0) (by (try dsimp only); first | omega | (refine ⟨?_, ?_⟩ <;> first | omega | assumption)) (by (try dsimp only); omega) _ _ _ hP hD hS (lv_sub hl [0, 1, 2, 3] rfl)
        · refine lv_iload_n hx hb dX7_fits_54 rfl (lv_at hl 1 rfl) ?_
          refine lv_iconst (v := 1) hx hb dX7_fits_55 hki_1 ?_
          refine lv_iload_n hx hb dX7_fits_56 rfl (lv_at hl 0 rfl) ?_
          refine lv_ishl hx hb dX7_fits_57 ?_
          refine lv_ior hx hb dX7_fits_58 ?_
          refine lv_istore_n (lv' := [(2, .int (fo ||| (1 <<< ((nI v) &&& 31)))), (3, .int (nI v)), (0, .ref h), (1, .int (nI j_5))]) hx hb dX7_fits_59 rfl hl (Nat.le_of_ble_eq_true rfl) rfl (fun ls hl => ?_)
          refine lv_iinc (v := nI (v + 1)) (lv' := [(3, .int (nI (v + 1))), (2, .int (fo ||| (1 <<< ((nI v) &&& 31)))), (0, .ref h), (1, .int (nI j_5))]) hx hb dX7_fits_60 hl (k := 1) rfl (nI_add (v) 1) (Nat.le_of_ble_eq_true rfl) rfl (fun ls hl => ?_)
          refine lv_goto (tgt := 28) hx hb dX7_fits_63 rfl ?_
          exact ih28 (fo ||| (1 <<< ((nI v) &&& 31)), v + 1, (fun j => ([upd wf ((nI j_5).toNatClampNeg) (nI v), u_8 1, u_8 2, u_8 3, u_8 4, u_8 5, u_8 6] : List (Nat → Int32)).getD j hsz) 0) (by (try dsimp only); first | omega | (refine ⟨?_, ?_⟩ <;> first | omega | assumption)) (by (try dsimp only); omega) _ _ _ hP hD hS (lv_sub hl [0, 1, 2, 3] rfl)
    · (try dsimp only); first | omega | (refine ⟨?_, ?_⟩ <;> first | omega | assumption)
  · refine lv_iconst (v := (-1)) hx hb dX7_fits_11 hki_m1 ?_
    exact hs_iret hx hb hr hlocks hK hP hD hS (tr_N, tr_J, (fun j => ([tr_F 0, tr_F 1, tr_F 2, tr_F 3, tr_F 4, tr_F 5, tr_F 6] : List (Nat → Int32)).getD j hsz)) [0, 1, 2, 3, 4, 5, 6, 7, 8, 9, 10, 11, 12, 13, 14, 15, 16] rfl (hs_upnd rfl) dX7_fits_12 (trivial)

set_option maxHeartbeats 4000000 in
set_option maxRecDepth 100000 in
theorem gp_kinds (l : Launch) (D : va_G) (k : Nat → ClassId) (sz : Nat) (h : Nat) (h_now : Nat) (h_trial : Nat) (h_images : Nat) (h_imageThere : Nat) (h_teller : Nat) (h_ranks : Nat) (h_court : Nat) (h_sheets : Nat) (h_lf : Int32) (h_lt : Int32) (n_a : Nat → Nat) (n_N : Nat → Nat) (n_J : Nat → Int32) (n_F : Nat → Nat → Int32) (tr_a : Nat → Nat) (tr_N : Nat → Nat) (tr_J : Nat → Int32) (tr_F : Nat → Nat → Int32) (i : Int32) (hN0 : thN n_N) (hF : thF n_N n_F) (h2 : 2 ≤ n_N 0) : MI l yX7_kinds wsX7_kinds ({ frames := 4, cells := 0, slots := 0, locals := 94 }) D k [.ref h, .int i] [oq6 h h_now h_trial h_images h_imageThere h_teller h_ranks h_court h_sheets h_lf h_lt, oqT h_now n_a n_N n_J, oqF0 k n_a n_F, oqF1 k n_a n_F, oqF2 k n_a n_F, oqF3 k n_a n_F, oqF4 k n_a n_F, oqF5 k n_a n_F, oqF6 k n_a n_F, oqT h_trial tr_a tr_N tr_J, oqF0 k tr_a tr_F, oqF1 k tr_a tr_F, oqF2 k tr_a tr_F, oqF3 k tr_a tr_F, oqF4 k tr_a tr_F, oqF5 k tr_a tr_F, oqF6 k tr_a tr_F] sz (fun (r : Int32) (u : (Nat → Nat) × (Nat → Int32) × (Nat → Nat → Int32)) => True) (fun (u : (Nat → Nat) × (Nat → Int32) × (Nat → Nat → Int32)) => [oq6 h h_now h_trial h_images h_imageThere h_teller h_ranks h_court h_sheets h_lf h_lt, oqT h_now n_a n_N n_J, oqF0 k n_a n_F, oqF1 k n_a n_F, oqF2 k n_a n_F, oqF3 k n_a n_F, oqF4 k n_a n_F, oqF5 k n_a n_F, oqF6 k n_a n_F, oqT h_trial tr_a u.1 u.2.1, oqF0 k tr_a u.2.2, oqF1 k tr_a u.2.2, oqF2 k tr_a u.2.2, oqF3 k tr_a u.2.2, oqF4 k tr_a u.2.2, oqF5 k tr_a u.2.2, oqF6 k tr_a u.2.2]) := by
  refine Met.ofW (cc := cX7_kinds) (maxL := 4) (ret := (some .int)) hpn_X7 rfl ?_
  intro p e s m args below meth c s₁ B hml hv
  obtain ⟨rfl, hsz, hP, hK, hD0, hN⟩ := hv
  have hx := B.exec
  have hb := B.bytes
  have hr := B.returns
  have hlocks := B.notSynchronized
  have hts := atoms_spec (ws := wsX7_kinds) B.pre
  have hown := findClass_of_methodNamed B.named
  have hown : s.vm.findClass RX7 = some m.cls := hown
  have hiX6 : ∀ w ∈ u_ws RX6 TX6 15, w ∈ wsX7_kinds := fun w9 hw9 => List.mem_cons_of_mem _ (igX6 w9 hw9)
  have hiX7 : ∀ w ∈ u_ws RX7 TX7 10, w ∈ wsX7_kinds := fun w9 hw9 => List.mem_cons_of_mem _ (igX7 w9 hw9)
  have fl10 := hts (.fieldLink RX7 10 "HalfScales" "now" "LHalfScales$Thing;") (List.mem_cons_of_mem _ (hs_inG 1 215 rfl rfl))
  have fl16 := hts (.fieldLink RX7 16 "HalfScales" "trial" "LHalfScales$Thing;") (List.mem_cons_of_mem _ (hs_inG 1 216 rfl rfl))
  have fl128 := hts (.fieldLink RX7 128 "HalfScales$Thing" "kindOf" "[I") (List.mem_cons_of_mem _ (hs_inG 1 39 rfl rfl))
  have hNn := hN0
  obtain ⟨I0, I1, ⟨I2, I2b⟩, I3, I4⟩ := hN0
  subst hsz
  have hD := hD0.self (sz := s.heap.size)
  generalize hAe : va_A [oq6 h h_now h_trial h_images h_imageThere h_teller h_ranks h_court h_sheets h_lf h_lt, oqT h_now n_a n_N n_J, oqF0 k n_a n_F, oqF1 k n_a n_F, oqF2 k n_a n_F, oqF3 k n_a n_F, oqF4 k n_a n_F, oqF5 k n_a n_F, oqF6 k n_a n_F, oqT h_trial tr_a tr_N tr_J, oqF0 k tr_a tr_F, oqF1 k tr_a tr_F, oqF2 k tr_a tr_F, oqF3 k tr_a tr_F, oqF4 k tr_a tr_F, oqF5 k tr_a tr_F, oqF6 k tr_a tr_F] s.heap.size = A at hD ⊢
  have hA : ∀ q : Nat, s.heap.size ≤ q → A q := fun q h => by rw [← hAe]; exact Or.inr h
  have hS : va_S A s.heap s.heap [] := va_S.rf
  have hl := lv_entry ([.ref h, .int i]) (n := 4) (Nat.le_of_ble_eq_true rfl)
  rw [lg_entry_eq]
  generalize (lg_sl ([.ref h, .int i]) ++ List.replicate (4 - (lg_sl ([.ref h, .int i])).length) Slot.unset).toArray = ls at hl ⊢
  have hl : lv_has ls 4 [(0, .ref h), (1, .int i)] := hl
  have hP : va_P D vwCl [oq6 h h_now h_trial h_images h_imageThere h_teller h_ranks h_court h_sheets h_lf h_lt, oqT h_now n_a n_N n_J, oqF0 k n_a n_F, oqF1 k n_a n_F, oqF2 k n_a n_F, oqF3 k n_a n_F, oqF4 k n_a n_F, oqF5 k n_a n_F, oqF6 k n_a n_F, oqT h_trial tr_a tr_N tr_J, oqF0 k tr_a tr_F, oqF1 k tr_a tr_F, oqF2 k tr_a tr_F, oqF3 k tr_a tr_F, oqF4 k tr_a tr_F, oqF5 k tr_a tr_F, oqF6 k tr_a tr_F] s.heap := hP
  refine lv_aload_n hx hb dX7_kinds_0 rfl (lv_at hl 0 rfl) ?_
  refine va_get (D := D) (ci := 6) (v := .ref h_now) (C := RX7) (T := TX7) (N := 10) hx hb hts hiX7 hown hK hP 0 rfl rfl 0 (Nat.le_of_ble_eq_true rfl) fl10 (fun _ h9 => h9) rfl dX7_kinds_1 ?_
  refine lv_iload_n hx hb dX7_kinds_4 rfl (lv_at hl 1 rfl) ?_
  refine hs_ciM (va_runV (As := [.int i]) (rest := []) ⟨hx, hb, hml, hown, hts⟩ (g_isPerson l D k _ h_now n_a n_N n_J i (by first | assumption | exact ⟨by first | omega | (dsimp; omega), by first | omega | (dsimp; omega), ⟨by first | omega | (dsimp; omega), by first | omega | (dsimp; omega)⟩, by first | omega | (dsimp; omega), by first | omega | (dsimp; omega)⟩)) (cwV 1 hts gX7_kinds_X6_isPerson rfl rfl rfl ⟨rfl, hq_X6_isPerson⟩ ⟨Nat.le_of_ble_eq_true rfl, Nat.le_of_ble_eq_true rfl⟩) (hs_preV hK hN (hs_subP (w := [_]) hP [1] rfl) (hD.sub (ws' := [_]) [1] (hs_upnd rfl) rfl) (ci := 5) (q0 := 0) rfl rfl) rfl rfl hl.1 rfl (lv_room (Nat.le_of_ble_eq_true rfl)) dX7_kinds_5 ⟨Nat.le_of_ble_eq_true rfl, Nat.le_of_ble_eq_true rfl⟩) hP hD hS hA [true, false, true, true, true, true, true, true, true, true, true, true, true, true, true, true, true] [_, _, _, _, _, _, _, _, _, _, _, _, _, _, _, _] [_] rfl [0] rfl [0] (fun u_3 => [_]) (fun _ => rfl) (hs_upnd rfl) [true, false, true, true, true, true, true, true, true, true, true, true, true, true, true, true, true] (fun u_3 => [_, _, _, _, _, _, _, _, _, _, _, _, _, _, _, _, _]) (fun _ => rfl) (fun r_1 u_3 H locs hw_2 hP hD hS => ?_)
  refine hs_topi (hsb (hslt i (n_N 1))) hw_2 ?_
  refine lv_if_ne (tgt := 13) hx hb dX7_kinds_8 rfl (fun c_4 => ?_) (fun c_4 => ?_)
  · obtain ⟨j_5, hj_5, rfl⟩ := hslt_ex (hs_nb c_4)
    refine lv_aload_n hx hb dX7_kinds_13 rfl (lv_at hl 0 rfl) ?_
    refine va_get (D := D) (ci := 6) (v := .ref h_trial) (C := RX7) (T := TX7) (N := 10) hx hb hts hiX7 hown hK hP 0 rfl rfl 1 (Nat.le_of_ble_eq_true rfl) fl16 (fun _ h9 => h9) rfl dX7_kinds_14 ?_
    refine lv_aload_n hx hb dX7_kinds_17 rfl (lv_at hl 0 rfl) ?_
    refine va_get (D := D) (ci := 6) (v := .ref h_now) (C := RX7) (T := TX7) (N := 10) hx hb hts hiX7 hown hK hP 0 rfl rfl 0 (Nat.le_of_ble_eq_true rfl) fl10 (fun _ h9 => h9) rfl dX7_kinds_18 ?_
    refine hs_cvM (va_runV (As := [.ref h_now]) (rest := []) ⟨hx, hb, hml, hown, hts⟩ (g_copyFrom l D k _ h_trial tr_a tr_N tr_J tr_F h_now n_a n_N n_J n_F) (cwV 1 hts gX7_kinds_X6_copyFrom rfl rfl rfl ⟨rfl, hq_X6_copyFrom⟩ ⟨Nat.le_of_ble_eq_true rfl, Nat.le_of_ble_eq_true rfl⟩) (hs_preV hK hN (hs_subP (w := [_, _, _, _, _, _, _, _, _, _, _, _, _, _, _, _]) hP [9, 10, 11, 12, 13, 14, 15, 16, 1, 2, 3, 4, 5, 6, 7, 8] rfl) (hD.sub (ws' := [_, _, _, _, _, _, _, _, _, _, _, _, _, _, _, _]) [9, 10, 11, 12, 13, 14, 15, 16, 1, 2, 3, 4, 5, 6, 7, 8] (by decide +kernel) rfl) (ci := 5) (q0 := 0) rfl rfl) rfl rfl hl.1 rfl (lv_room (Nat.le_of_ble_eq_true rfl)) dX7_kinds_21 ⟨Nat.le_of_ble_eq_true rfl, Nat.le_of_ble_eq_true rfl⟩) hP hD hS hA [true, false, false, false, false, false, false, false, false, false, false, false, false, false, false, false, false] [_] [_, _, _, _, _, _, _, _, _, _, _, _, _, _, _, _] rfl [8, 9, 10, 11, 12, 13, 14, 15, 0, 1, 2, 3, 4, 5, 6, 7] rfl [8, 9, 10, 11, 12, 13, 14, 15, 0, 1, 2, 3, 4, 5, 6, 7] (fun u_8 => [_, _, _, _, _, _, _, _, _, _, _, _, _, _, _, _]) (fun _ => rfl) (by decide +kernel) [true, false, false, false, false, false, false, false, false, false, false, false, false, false, false, false, false] (fun u_8 => [_, _, _, _, _, _, _, _, _, _, _, _, _, _, _, _, _]) (fun _ => rfl) (fun u_8 H locs hw_7 hP hD hS => ?_)
    have hw_7 : ∀ q i, i < hs7 q → u_8 q i = n_F q i := hw_7
    refine lv_iconst (v := 0) hx hb dX7_kinds_24 hki_0 ?_
    refine lv_istore_n (lv' := [(2, .int 0), (0, .ref h), (1, .int (nI j_5))]) hx hb dX7_kinds_25 rfl hl (Nat.le_of_ble_eq_true rfl) rfl (fun ls hl => ?_)
    refine lv_iconst (v := 0) hx hb dX7_kinds_26 hki_0 ?_
    refine lv_istore_n (lv' := [(3, .int 0), (2, .int 0), (0, .ref h), (1, .int (nI j_5))]) hx hb dX7_kinds_27 rfl hl (Nat.le_of_ble_eq_true rfl) rfl (fun ls hl => ?_)
    refine hs_while (σ := Int32 × Nat × (Nat → Int32)) (fun x => x.2.1 ≤ 4) (fun x => 4 - x.2.1) (fun x => [oq6 h h_now h_trial h_images h_imageThere h_teller h_ranks h_court h_sheets h_lf h_lt, oqT h_now n_a n_N n_J, oqF0 k n_a n_F, oqF1 k n_a n_F, oqF2 k n_a n_F, oqF3 k n_a n_F, oqF4 k n_a n_F, oqF5 k n_a n_F, oqF6 k n_a n_F, oqT h_trial tr_a n_N n_J, oqF0 k tr_a u_8, oqI k (tr_a 1) 4 ((x.2.2)), oqF2 k tr_a u_8, oqF3 k tr_a u_8, oqF4 k tr_a u_8, oqF5 k tr_a u_8, oqF6 k tr_a u_8]) (fun x => [(3, .int (nI (x.2.1))), (2, .int (x.1)), (0, .ref h), (1, .int (nI j_5))]) ?_ (0, 0, u_8 1) ?_ hP hD hS hl
    · intro x hI ih28 H locs ls hP hD hS hl
      obtain ⟨fo, v, wf⟩ := x
      try dsimp only at hI
      have hP : va_P D vwCl [_, _, _, _, _, _, _, _, _, _, _, oqI k (tr_a 1) 4 (wf), _, _, _, _, _] H := hP
      have hD : va_D A [_, _, _, _, _, _, _, _, _, _, _, oqI k (tr_a 1) 4 (wf), _, _, _, _, _] := hD
      have hl : lv_has ls 4 [(3, .int (nI v)), (2, .int fo), (0, .ref h), (1, .int (nI j_5))] := hl
      refine lv_iload_n hx hb dX7_kinds_28 rfl (lv_at hl 0 rfl) ?_
      refine lv_iconst (v := 3) hx hb dX7_kinds_29 hki_3 ?_
      refine lv_icmp_gt (tgt := 65) hx hb dX7_kinds_30 rfl (fun c_9 => ?_) (fun c_9 => ?_)
      · have nc_9 : 3 < v := (nI_ltI (a := 3) (b := v) (by omega) (by omega)).mp c_9
        refine lv_iload_n hx hb dX7_kinds_65 rfl (lv_at hl 1 rfl) ?_
        exact hs_iret hx hb hr hlocks hK hP hD hS (n_N, n_J, (fun j => ([u_8 0, wf, u_8 2, u_8 3, u_8 4, u_8 5, u_8 6] : List (Nat → Int32)).getD j hsz)) [0, 1, 2, 3, 4, 5, 6, 7, 8, 9, 10, 11, 12, 13, 14, 15, 16] rfl (hs_upnd rfl) dX7_kinds_66 (trivial)
      · have nc_9 : ¬ 3 < v := fun hq9 => c_9 ((nI_ltI (a := 3) (b := v) (by omega) (by omega)).mpr hq9)
        refine lv_aload_n hx hb dX7_kinds_33 rfl (lv_at hl 2 rfl) ?_
        refine va_get (D := D) (ci := 6) (v := .ref h_trial) (C := RX7) (T := TX7) (N := 10) hx hb hts hiX7 hown hK hP 0 rfl rfl 1 (Nat.le_of_ble_eq_true rfl) fl16 (fun _ h9 => h9) rfl dX7_kinds_34 ?_
        refine va_get (D := D) (ci := 5) (v := .ref (tr_a 1)) (C := RX6) (T := TX6) (N := 15) hx hb hts hiX6 hown hK hP 9 rfl rfl 1 (Nat.le_of_ble_eq_true rfl) fl128 (fun _ h9 => h9) rfl dX7_kinds_37 ?_
        refine lv_iload_n hx hb dX7_kinds_40 rfl (lv_at hl 3 rfl) ?_
        refine lv_iload_n hx hb dX7_kinds_41 rfl (lv_at hl 0 rfl) ?_
        refine va_iast hx hb hK hP hD hS 11 0 rfl rfl (vp_in_nI (show j_5 < 4 by omega) (by decide)) dX7_kinds_42 (fun H locs hP hD hS => ?_)
        have hP : va_P D vwCl [_, _, _, _, _, _, _, _, _, _, _, oqI k (tr_a 1) 4 (upd wf ((nI j_5).toNatClampNeg) (nI v)), _, _, _, _, _] H := hP
        have hD : va_D A [_, _, _, _, _, _, _, _, _, _, _, oqI k (tr_a 1) 4 (upd wf ((nI j_5).toNatClampNeg) (nI v)), _, _, _, _, _] := hD
        refine lv_aload_n hx hb dX7_kinds_43 rfl (lv_at hl 2 rfl) ?_
        refine va_get (D := D) (ci := 6) (v := .ref h_trial) (C := RX7) (T := TX7) (N := 10) hx hb hts hiX7 hown hK hP 0 rfl rfl 1 (Nat.le_of_ble_eq_true rfl) fl16 (fun _ h9 => h9) rfl dX7_kinds_44 ?_
        refine hs_ciM (va_runV (As := []) (rest := []) ⟨hx, hb, hml, hown, hts⟩ (g_isAsSeen l D k _ h_trial tr_a n_N n_J (fun j => ([u_8 0, upd wf ((nI j_5).toNatClampNeg) (nI v), u_8 2, u_8 3, u_8 4, u_8 5, u_8 6] : List (Nat → Int32)).getD j hsz) (by first | assumption | exact ⟨by first | omega | (dsimp; omega), by first | omega | (dsimp; omega), ⟨by first | omega | (dsimp; omega), by first | omega | (dsimp; omega)⟩, by first | omega | (dsimp; omega), by first | omega | (dsimp; omega)⟩) ⟨fun i hi => by show vp_in (u_8 3 i) 5; rw [hw_7 3 i (show i < 8 by omega)]; exact hF.1 i hi, fun i hi => by show vp_in (u_8 4 i) 4; rw [hw_7 4 i (show i < 6 by omega)]; exact hF.2 i hi⟩) (cwV 0 hts gX7_kinds_X6_isAsSeen rfl rfl rfl ⟨rfl, hq_X6_isAsSeen⟩ ⟨Nat.le_of_ble_eq_true rfl, Nat.le_of_ble_eq_true rfl⟩) (hs_preV hK hN (hs_subP (w := [_, _, _, _, _, _, _, _]) hP [9, 10, 11, 12, 13, 14, 15, 16] rfl) (hD.sub (ws' := [_, _, _, _, _, _, _, _]) [9, 10, 11, 12, 13, 14, 15, 16] (hs_upnd rfl) rfl) (ci := 5) (q0 := 0) rfl rfl) rfl rfl hl.1 rfl (lv_room (Nat.le_of_ble_eq_true rfl)) dX7_kinds_47 ⟨Nat.le_of_ble_eq_true rfl, Nat.le_of_ble_eq_true rfl⟩) hP hD hS hA [true, true, true, true, true, true, true, true, true, false, false, false, false, false, false, false, false] [_, _, _, _, _, _, _, _, _] [_, _, _, _, _, _, _, _] rfl [0, 1, 2, 3, 4, 5, 6, 7] rfl [0, 1, 2, 3, 4, 5, 6, 7] (fun u_12 => [_, _, _, _, _, _, _, _]) (fun _ => rfl) (hs_upnd rfl) [true, true, true, true, true, true, true, true, true, false, false, false, false, false, false, false, false] (fun u_12 => [_, _, _, _, _, _, _, _, _, _, _, _, _, _, _, _, _]) (fun _ => rfl) (fun r_10 u_12 H locs hw_11 hP hD hS => ?_)
        refine lv_if_eq (tgt := 59) hx hb dX7_kinds_50 rfl (fun c_13 => ?_) (fun c_13 => ?_)
        · refine lv_iinc (v := nI (v + 1)) (lv' := [(3, .int (nI (v + 1))), (2, .int fo), (0, .ref h), (1, .int (nI j_5))]) hx hb dX7_kinds_59 hl (k := 0) rfl (nI_add (v) 1) (Nat.le_of_ble_eq_true rfl) rfl (fun ls hl => ?_)
          refine lv_goto (tgt := 28) hx hb dX7_kinds_62 rfl ?_
          exact ih28 (fo, v + 1, (fun j => ([u_8 0, upd wf ((nI j_5).toNatClampNeg) (nI v), u_8 2, u_8 3, u_8 4, u_8 5, u_8 6] : List (Nat → Int32)).getD j hsz) 1) (by (try dsimp only); first | omega | (refine ⟨?_, ?_⟩ <;> first | omega | assumption)) (by (try dsimp only); omega) _ _ _ hP hD hS (lv_sub hl [0, 1, 2, 3] rfl)
        · refine lv_iload_n hx hb dX7_kinds_53 rfl (lv_at hl 1 rfl) ?_
          refine lv_iconst (v := 1) hx hb dX7_kinds_54 hki_1 ?_
          refine lv_iload_n hx hb dX7_kinds_55 rfl (lv_at hl 0 rfl) ?_
          refine lv_ishl hx hb dX7_kinds_56 ?_
          refine lv_ior hx hb dX7_kinds_57 ?_
          refine lv_istore_n (lv' := [(2, .int (fo ||| (1 <<< ((nI v) &&& 31)))), (3, .int (nI v)), (0, .ref h), (1, .int (nI j_5))]) hx hb dX7_kinds_58 rfl hl (Nat.le_of_ble_eq_true rfl) rfl (fun ls hl => ?_)
          refine lv_iinc (v := nI (v + 1)) (lv' := [(3, .int (nI (v + 1))), (2, .int (fo ||| (1 <<< ((nI v) &&& 31)))), (0, .ref h), (1, .int (nI j_5))]) hx hb dX7_kinds_59 hl (k := 1) rfl (nI_add (v) 1) (Nat.le_of_ble_eq_true rfl) rfl (fun ls hl => ?_)
          refine lv_goto (tgt := 28) hx hb dX7_kinds_62 rfl ?_
          exact ih28 (fo ||| (1 <<< ((nI v) &&& 31)), v + 1, (fun j => ([u_8 0, upd wf ((nI j_5).toNatClampNeg) (nI v), u_8 2, u_8 3, u_8 4, u_8 5, u_8 6] : List (Nat → Int32)).getD j hsz) 1) (by (try dsimp only); first | omega | (refine ⟨?_, ?_⟩ <;> first | omega | assumption)) (by (try dsimp only); omega) _ _ _ hP hD hS (lv_sub hl [0, 1, 2, 3] rfl)
    · (try dsimp only); first | omega | (refine ⟨?_, ?_⟩ <;> first | omega | assumption)
  · refine lv_iconst (v := (-1)) hx hb dX7_kinds_11 hki_m1 ?_
    exact hs_iret hx hb hr hlocks hK hP hD hS (tr_N, tr_J, (fun j => ([tr_F 0, tr_F 1, tr_F 2, tr_F 3, tr_F 4, tr_F 5, tr_F 6] : List (Nat → Int32)).getD j hsz)) [0, 1, 2, 3, 4, 5, 6, 7, 8, 9, 10, 11, 12, 13, 14, 15, 16] rfl (hs_upnd rfl) dX7_kinds_12 (trivial)

set_option maxHeartbeats 4000000 in
set_option maxRecDepth 100000 in
theorem gp_drift (l : Launch) (D : va_G) (k : Nat → ClassId) (sz : Nat) (h : Nat) (h_now : Nat) (h_trial : Nat) (h_images : Nat) (h_imageThere : Nat) (h_teller : Nat) (h_ranks : Nat) (h_court : Nat) (h_sheets : Nat) (h_lf : Int32) (h_lt : Int32) (n_a : Nat → Nat) (n_N : Nat → Nat) (n_J : Nat → Int32) (n_F : Nat → Nat → Int32) (tr_a : Nat → Nat) (tr_N : Nat → Nat) (tr_J : Nat → Int32) (tr_F : Nat → Nat → Int32) (seed : Int32) (n : Int32) (what : Int32) (hN0 : thN n_N) (hF : thF n_N n_F) (h2 : 2 ≤ n_N 0) : MI l yX7_drift wsX7_drift ({ frames := 3, cells := 0, slots := 0, locals := 81 }) D k [.ref h, .int seed, .int n, .int what] [oq6 h h_now h_trial h_images h_imageThere h_teller h_ranks h_court h_sheets h_lf h_lt, oqT h_now n_a n_N n_J, oqF0 k n_a n_F, oqF1 k n_a n_F, oqF2 k n_a n_F, oqF3 k n_a n_F, oqF4 k n_a n_F, oqF5 k n_a n_F, oqF6 k n_a n_F, oqT h_trial tr_a tr_N tr_J, oqF0 k tr_a tr_F, oqF1 k tr_a tr_F, oqF2 k tr_a tr_F, oqF3 k tr_a tr_F, oqF4 k tr_a tr_F, oqF5 k tr_a tr_F, oqF6 k tr_a tr_F] sz (fun (r : Int32) (u : (Nat → Nat) × (Nat → Int32) × (Nat → Nat → Int32)) => True) (fun (u : (Nat → Nat) × (Nat → Int32) × (Nat → Nat → Int32)) => [oq6 h h_now h_trial h_images h_imageThere h_teller h_ranks h_court h_sheets h_lf h_lt, oqT h_now n_a n_N n_J, oqF0 k n_a n_F, oqF1 k n_a n_F, oqF2 k n_a n_F, oqF3 k n_a n_F, oqF4 k n_a n_F, oqF5 k n_a n_F, oqF6 k n_a n_F, oqT h_trial tr_a u.1 u.2.1, oqF0 k tr_a u.2.2, oqF1 k tr_a u.2.2, oqF2 k tr_a u.2.2, oqF3 k tr_a u.2.2, oqF4 k tr_a u.2.2, oqF5 k tr_a u.2.2, oqF6 k tr_a u.2.2]) := by
  refine Met.ofW (cc := cX7_drift) (maxL := 8) (ret := (some .int)) hpn_X7 rfl ?_
  intro p e s m args below meth c s₁ B hml hv
  obtain ⟨rfl, hsz, hP, hK, hD0, hN⟩ := hv
  have hx := B.exec
  have hb := B.bytes
  have hr := B.returns
  have hlocks := B.notSynchronized
  have hts := atoms_spec (ws := wsX7_drift) B.pre
  have hown := findClass_of_methodNamed B.named
  have hown : s.vm.findClass RX7 = some m.cls := hown
  have hiX6 : ∀ w ∈ u_ws RX6 TX6 15, w ∈ wsX7_drift := fun w9 hw9 => List.mem_cons_of_mem _ (igX6 w9 hw9)
  have hiX7 : ∀ w ∈ u_ws RX7 TX7 10, w ∈ wsX7_drift := fun w9 hw9 => List.mem_cons_of_mem _ (igX7 w9 hw9)
  have fl16 := hts (.fieldLink RX7 16 "HalfScales" "trial" "LHalfScales$Thing;") (List.mem_cons_of_mem _ (hs_inG 1 216 rfl rfl))
  have fl10 := hts (.fieldLink RX7 10 "HalfScales" "now" "LHalfScales$Thing;") (List.mem_cons_of_mem _ (hs_inG 1 215 rfl rfl))
  have fl93 := hts (.fieldLink RX7 93 "HalfScales$Thing" "cellCount" "I") (List.mem_cons_of_mem _ (hs_inG 1 53 rfl rfl))
  have fl122 := hts (.fieldLink RX7 122 "HalfScales$Thing" "weights" "[I") (List.mem_cons_of_mem _ (hs_inG 1 36 rfl rfl))
  have kc255 := hts (.constant RX7 255 (1103515245)) (List.mem_cons_of_mem _ (hs_inG 3 233 rfl rfl))
  have hNn := hN0
  obtain ⟨I0, I1, ⟨I2, I2b⟩, I3, I4⟩ := hN0
  subst hsz
  have hD := hD0.self (sz := s.heap.size)
  generalize hAe : va_A [oq6 h h_now h_trial h_images h_imageThere h_teller h_ranks h_court h_sheets h_lf h_lt, oqT h_now n_a n_N n_J, oqF0 k n_a n_F, oqF1 k n_a n_F, oqF2 k n_a n_F, oqF3 k n_a n_F, oqF4 k n_a n_F, oqF5 k n_a n_F, oqF6 k n_a n_F, oqT h_trial tr_a tr_N tr_J, oqF0 k tr_a tr_F, oqF1 k tr_a tr_F, oqF2 k tr_a tr_F, oqF3 k tr_a tr_F, oqF4 k tr_a tr_F, oqF5 k tr_a tr_F, oqF6 k tr_a tr_F] s.heap.size = A at hD ⊢
  have hA : ∀ q : Nat, s.heap.size ≤ q → A q := fun q h => by rw [← hAe]; exact Or.inr h
  have hS : va_S A s.heap s.heap [] := va_S.rf
  have hl := lv_entry ([.ref h, .int seed, .int n, .int what]) (n := 8) (Nat.le_of_ble_eq_true rfl)
  rw [lg_entry_eq]
  generalize (lg_sl ([.ref h, .int seed, .int n, .int what]) ++ List.replicate (8 - (lg_sl ([.ref h, .int seed, .int n, .int what])).length) Slot.unset).toArray = ls at hl ⊢
  have hl : lv_has ls 8 [(0, .ref h), (1, .int seed), (2, .int n), (3, .int what)] := hl
  have hP : va_P D vwCl [oq6 h h_now h_trial h_images h_imageThere h_teller h_ranks h_court h_sheets h_lf h_lt, oqT h_now n_a n_N n_J, oqF0 k n_a n_F, oqF1 k n_a n_F, oqF2 k n_a n_F, oqF3 k n_a n_F, oqF4 k n_a n_F, oqF5 k n_a n_F, oqF6 k n_a n_F, oqT h_trial tr_a tr_N tr_J, oqF0 k tr_a tr_F, oqF1 k tr_a tr_F, oqF2 k tr_a tr_F, oqF3 k tr_a tr_F, oqF4 k tr_a tr_F, oqF5 k tr_a tr_F, oqF6 k tr_a tr_F] s.heap := hP
  refine lv_iload_n hx hb dX7_drift_0 rfl (lv_at hl 2 rfl) ?_
  refine lv_iconst (v := 1) hx hb dX7_drift_1 hki_1 ?_
  refine lv_bipush (v := 60) hx hb dX7_drift_2 hkb_60 ?_
  refine hs_pi (va_runS (As := [.int n, .int 1, .int 60]) (rest := []) ⟨hx, hb, hml, hown, hts⟩ (g_within l D k _ n 1 60) (va_cwS 3 hts gX7_drift_X7_within rfl rfl rfl hq_X7_within ⟨Nat.le_of_ble_eq_true rfl, Nat.le_of_ble_eq_true rfl⟩) (hs_preS hK hN (hs_subP (w := []) hP [] rfl) (hD.sub (ws' := []) [] rfl rfl)) rfl rfl hl.1 rfl (lv_room (Nat.le_of_ble_eq_true rfl)) dX7_drift_4 ⟨Nat.le_of_ble_eq_true rfl, Nat.le_of_ble_eq_true rfl⟩) hP hD hS hA (fun r_1 u_3 H locs hw_2 hP hS => ?_)
  refine hs_topi (hsb (hsin n 1 60)) hw_2 ?_
  refine lv_if_eq (tgt := 19) hx hb dX7_drift_7 rfl (fun c_4 => ?_) (fun c_4 => ?_)
  · refine lv_iconst (v := (-1)) hx hb dX7_drift_19 hki_m1 ?_
    exact hs_iret hx hb hr hlocks hK hP hD hS (tr_N, tr_J, (fun j => ([tr_F 0, tr_F 1, tr_F 2, tr_F 3, tr_F 4, tr_F 5, tr_F 6] : List (Nat → Int32)).getD j hsz)) [0, 1, 2, 3, 4, 5, 6, 7, 8, 9, 10, 11, 12, 13, 14, 15, 16] rfl (hs_upnd rfl) dX7_drift_20 (trivial)
  · obtain ⟨N, hN60, rfl⟩ := hs_n60 (hs_nb c_4)
    refine lv_iload_n hx hb dX7_drift_10 rfl (lv_at hl 3 rfl) ?_
    refine lv_iconst (v := 0) hx hb dX7_drift_11 hki_0 ?_
    refine lv_iconst (v := 1) hx hb dX7_drift_12 hki_1 ?_
    refine hs_pi (va_runS (As := [.int what, .int 0, .int 1]) (rest := []) ⟨hx, hb, hml, hown, hts⟩ (g_within l D k _ what 0 1) (va_cwS 3 hts gX7_drift_X7_within rfl rfl rfl hq_X7_within ⟨Nat.le_of_ble_eq_true rfl, Nat.le_of_ble_eq_true rfl⟩) (hs_preS hK hN (hs_subP (w := []) hP [] rfl) (hD.sub (ws' := []) [] rfl rfl)) rfl rfl hl.1 rfl (lv_room (Nat.le_of_ble_eq_true rfl)) dX7_drift_13 ⟨Nat.le_of_ble_eq_true rfl, Nat.le_of_ble_eq_true rfl⟩) hP hD hS hA (fun r_5 u_7 H locs hw_6 hP hS => ?_)
    refine hs_topi (hsb (hsin what 0 1)) hw_6 ?_
    refine lv_if_ne (tgt := 21) hx hb dX7_drift_16 rfl (fun c_8 => ?_) (fun c_8 => ?_)
    · refine lv_aload_n hx hb dX7_drift_21 rfl (lv_at hl 0 rfl) ?_
      refine va_get (D := D) (ci := 6) (v := .ref h_trial) (C := RX7) (T := TX7) (N := 10) hx hb hts hiX7 hown hK hP 0 rfl rfl 1 (Nat.le_of_ble_eq_true rfl) fl16 (fun _ h9 => h9) rfl dX7_drift_22 ?_
      refine lv_aload_n hx hb dX7_drift_25 rfl (lv_at hl 0 rfl) ?_
      refine va_get (D := D) (ci := 6) (v := .ref h_now) (C := RX7) (T := TX7) (N := 10) hx hb hts hiX7 hown hK hP 0 rfl rfl 0 (Nat.le_of_ble_eq_true rfl) fl10 (fun _ h9 => h9) rfl dX7_drift_26 ?_
      refine hs_cvM (va_runV (As := [.ref h_now]) (rest := []) ⟨hx, hb, hml, hown, hts⟩ (g_copyFrom l D k _ h_trial tr_a tr_N tr_J tr_F h_now n_a n_N n_J n_F) (cwV 1 hts gX7_drift_X6_copyFrom rfl rfl rfl ⟨rfl, hq_X6_copyFrom⟩ ⟨Nat.le_of_ble_eq_true rfl, Nat.le_of_ble_eq_true rfl⟩) (hs_preV hK hN (hs_subP (w := [_, _, _, _, _, _, _, _, _, _, _, _, _, _, _, _]) hP [9, 10, 11, 12, 13, 14, 15, 16, 1, 2, 3, 4, 5, 6, 7, 8] rfl) (hD.sub (ws' := [_, _, _, _, _, _, _, _, _, _, _, _, _, _, _, _]) [9, 10, 11, 12, 13, 14, 15, 16, 1, 2, 3, 4, 5, 6, 7, 8] (by decide +kernel) rfl) (ci := 5) (q0 := 0) rfl rfl) rfl rfl hl.1 rfl (lv_room (Nat.le_of_ble_eq_true rfl)) dX7_drift_29 ⟨Nat.le_of_ble_eq_true rfl, Nat.le_of_ble_eq_true rfl⟩) hP hD hS hA [true, false, false, false, false, false, false, false, false, false, false, false, false, false, false, false, false] [_] [_, _, _, _, _, _, _, _, _, _, _, _, _, _, _, _] rfl [8, 9, 10, 11, 12, 13, 14, 15, 0, 1, 2, 3, 4, 5, 6, 7] rfl [8, 9, 10, 11, 12, 13, 14, 15, 0, 1, 2, 3, 4, 5, 6, 7] (fun u_11 => [_, _, _, _, _, _, _, _, _, _, _, _, _, _, _, _]) (fun _ => rfl) (by decide +kernel) [true, false, false, false, false, false, false, false, false, false, false, false, false, false, false, false, false] (fun u_11 => [_, _, _, _, _, _, _, _, _, _, _, _, _, _, _, _, _]) (fun _ => rfl) (fun u_11 H locs hw_10 hP hD hS => ?_)
      have hw_10 : ∀ q i, i < hs7 q → u_11 q i = n_F q i := hw_10
      refine lv_iload_n hx hb dX7_drift_32 rfl (lv_at hl 1 rfl) ?_
      refine lv_istore (lv' := [(4, .int seed), (0, .ref h), (1, .int seed), (2, .int (nI N)), (3, .int what)]) hx hb dX7_drift_33 hl (Nat.le_of_ble_eq_true rfl) rfl (fun ls hl => ?_)
      refine lv_iconst (v := 0) hx hb dX7_drift_35 hki_0 ?_
      refine lv_istore (lv' := [(5, .int 0), (4, .int seed), (0, .ref h), (1, .int seed), (2, .int (nI N)), (3, .int what)]) hx hb dX7_drift_36 hl (Nat.le_of_ble_eq_true rfl) rfl (fun ls hl => ?_)
      refine lv_iconst (v := 0) hx hb dX7_drift_38 hki_0 ?_
      refine lv_istore (lv' := [(6, .int 0), (5, .int 0), (4, .int seed), (0, .ref h), (1, .int seed), (2, .int (nI N)), (3, .int what)]) hx hb dX7_drift_39 hl (Nat.le_of_ble_eq_true rfl) rfl (fun ls hl => ?_)
      refine hs_while (σ := Int32 × Int32 × Nat × (Nat → Int32)) (fun x => x.2.2.1 ≤ N) (fun x => N - x.2.2.1) (fun x => [oq6 h h_now h_trial h_images h_imageThere h_teller h_ranks h_court h_sheets h_lf h_lt, oqT h_now n_a n_N n_J, oqF0 k n_a n_F, oqF1 k n_a n_F, oqF2 k n_a n_F, oqF3 k n_a n_F, oqF4 k n_a n_F, oqF5 k n_a n_F, oqF6 k n_a n_F, oqT h_trial tr_a n_N n_J, oqI k (tr_a 0) 8 ((x.2.2.2)), oqF1 k tr_a u_11, oqF2 k tr_a u_11, oqF3 k tr_a u_11, oqF4 k tr_a u_11, oqF5 k tr_a u_11, oqF6 k tr_a u_11]) (fun x => [(6, .int (nI (x.2.2.1))), (5, .int (x.2.1)), (4, .int (x.1)), (0, .ref h), (1, .int seed), (2, .int (nI N)), (3, .int what)]) ?_ (seed, 0, 0, u_11 0) ?_ hP hD hS hl
      · intro x hI ih41 H locs ls hP hD hS hl
        obtain ⟨at0, sum, i, wf⟩ := x
        try dsimp only at hI
        have hP : va_P D vwCl [_, _, _, _, _, _, _, _, _, _, oqI k (tr_a 0) 8 (wf), _, _, _, _, _, _] H := hP
        have hD : va_D A [_, _, _, _, _, _, _, _, _, _, oqI k (tr_a 0) 8 (wf), _, _, _, _, _, _] := hD
        have hl : lv_has ls 8 [(6, .int (nI i)), (5, .int sum), (4, .int at0), (0, .ref h), (1, .int seed), (2, .int (nI N)), (3, .int what)] := hl
        refine lv_iload hx hb dX7_drift_41 (lv_at hl 0 rfl) ?_
        refine lv_iload_n hx hb dX7_drift_43 rfl (lv_at hl 5 rfl) ?_
        refine lv_icmp_ge (tgt := 127) hx hb dX7_drift_44 rfl (fun c_12 => ?_) (fun c_12 => ?_)
        · have nc_12 : N ≤ i := (nI_leI (a := N) (b := i) (by omega) (by omega)).mp c_12
          refine lv_iload_n hx hb dX7_drift_127 rfl (lv_at hl 6 rfl) ?_
          refine lv_if_ne (tgt := 136) hx hb dX7_drift_128 rfl (fun c_13 => ?_) (fun c_13 => ?_)
          · refine lv_aload_n hx hb dX7_drift_136 rfl (lv_at hl 3 rfl) ?_
            refine va_get (D := D) (ci := 6) (v := .ref h_trial) (C := RX7) (T := TX7) (N := 10) hx hb hts hiX7 hown hK hP 0 rfl rfl 1 (Nat.le_of_ble_eq_true rfl) fl16 (fun _ h9 => h9) rfl dX7_drift_137 ?_
            refine hs_ciM (va_runV (As := []) (rest := []) ⟨hx, hb, hml, hown, hts⟩ (g_allWeights l D k _ h_trial tr_a n_N n_J (fun j => ([wf, u_11 1, u_11 2, u_11 3, u_11 4, u_11 5, u_11 6] : List (Nat → Int32)).getD j hsz) (by first | assumption | exact ⟨by first | omega | (dsimp; omega), by first | omega | (dsimp; omega), ⟨by first | omega | (dsimp; omega), by first | omega | (dsimp; omega)⟩, by first | omega | (dsimp; omega), by first | omega | (dsimp; omega)⟩)) (cwV 0 hts gX7_drift_X6_allWeights rfl rfl rfl ⟨rfl, hq_X6_allWeights⟩ ⟨Nat.le_of_ble_eq_true rfl, Nat.le_of_ble_eq_true rfl⟩) (hs_preV hK hN (hs_subP (w := [_, _, _, _, _, _, _, _]) hP [9, 10, 11, 12, 13, 14, 15, 16] rfl) (hD.sub (ws' := [_, _, _, _, _, _, _, _]) [9, 10, 11, 12, 13, 14, 15, 16] (hs_upnd rfl) rfl) (ci := 5) (q0 := 0) rfl rfl) rfl rfl hl.1 rfl (lv_room (Nat.le_of_ble_eq_true rfl)) dX7_drift_140 ⟨Nat.le_of_ble_eq_true rfl, Nat.le_of_ble_eq_true rfl⟩) hP hD hS hA [true, true, true, true, true, true, true, true, true, false, false, false, false, false, false, false, false] [_, _, _, _, _, _, _, _, _] [_, _, _, _, _, _, _, _] rfl [0, 1, 2, 3, 4, 5, 6, 7] rfl [0, 1, 2, 3, 4, 5, 6, 7] (fun u_16 => [_, _, _, _, _, _, _, _]) (fun _ => rfl) (hs_upnd rfl) [true, true, true, true, true, true, true, true, true, false, false, false, false, false, false, false, false] (fun u_16 => [_, _, _, _, _, _, _, _, _, _, _, _, _, _, _, _, _]) (fun _ => rfl) (fun r_14 u_16 H locs hw_15 hP hD hS => ?_)
            exact hs_iret hx hb hr hlocks hK hP hD hS (n_N, n_J, (fun j => ([(fun j => ([wf, u_11 1, u_11 2, u_11 3, u_11 4, u_11 5, u_11 6] : List (Nat → Int32)).getD j hsz) 0, (fun j => ([wf, u_11 1, u_11 2, u_11 3, u_11 4, u_11 5, u_11 6] : List (Nat → Int32)).getD j hsz) 1, (fun j => ([wf, u_11 1, u_11 2, u_11 3, u_11 4, u_11 5, u_11 6] : List (Nat → Int32)).getD j hsz) 2, (fun j => ([wf, u_11 1, u_11 2, u_11 3, u_11 4, u_11 5, u_11 6] : List (Nat → Int32)).getD j hsz) 3, (fun j => ([wf, u_11 1, u_11 2, u_11 3, u_11 4, u_11 5, u_11 6] : List (Nat → Int32)).getD j hsz) 4, (fun j => ([wf, u_11 1, u_11 2, u_11 3, u_11 4, u_11 5, u_11 6] : List (Nat → Int32)).getD j hsz) 5, (fun j => ([wf, u_11 1, u_11 2, u_11 3, u_11 4, u_11 5, u_11 6] : List (Nat → Int32)).getD j hsz) 6] : List (Nat → Int32)).getD j hsz)) [0, 1, 2, 3, 4, 5, 6, 7, 8, 9, 10, 11, 12, 13, 14, 15, 16] rfl (hs_upnd rfl) dX7_drift_143 (trivial)
          · refine lv_iload hx hb dX7_drift_131 (lv_at hl 1 rfl) ?_
            refine lv_goto (tgt := 143) hx hb dX7_drift_133 rfl ?_
            exact hs_iret hx hb hr hlocks hK hP hD hS (n_N, n_J, (fun j => ([wf, u_11 1, u_11 2, u_11 3, u_11 4, u_11 5, u_11 6] : List (Nat → Int32)).getD j hsz)) [0, 1, 2, 3, 4, 5, 6, 7, 8, 9, 10, 11, 12, 13, 14, 15, 16] rfl (hs_upnd rfl) dX7_drift_143 (trivial)
        · have nc_12 : ¬ N ≤ i := fun hq9 => c_12 ((nI_leI (a := N) (b := i) (by omega) (by omega)).mpr hq9)
          refine lv_aload_n hx hb dX7_drift_47 rfl (lv_at hl 3 rfl) ?_
          refine va_get (D := D) (ci := 6) (v := .ref h_trial) (C := RX7) (T := TX7) (N := 10) hx hb hts hiX7 hown hK hP 0 rfl rfl 1 (Nat.le_of_ble_eq_true rfl) fl16 (fun _ h9 => h9) rfl dX7_drift_48 ?_
          refine va_get (D := D) (ci := 5) (v := .int (nI (n_N 0))) (C := RX6) (T := TX6) (N := 15) hx hb hts hiX6 hown hK hP 9 rfl rfl 7 (Nat.le_of_ble_eq_true rfl) fl93 (fun _ h9 => h9) rfl dX7_drift_51 ?_
          refine lv_if_le (tgt := 127) hx hb dX7_drift_54 rfl (fun c_17 => ?_) (fun c_17 => ?_)
          · have nc_17 : (n_N 0) ≤ 0 := (nI_leI (a := (n_N 0)) (b := 0) (by omega) (by omega)).mp c_17
            refine lv_iload_n hx hb dX7_drift_127 rfl (lv_at hl 6 rfl) ?_
            refine lv_if_ne (tgt := 136) hx hb dX7_drift_128 rfl (fun c_18 => ?_) (fun c_18 => ?_)
            · refine lv_aload_n hx hb dX7_drift_136 rfl (lv_at hl 3 rfl) ?_
              refine va_get (D := D) (ci := 6) (v := .ref h_trial) (C := RX7) (T := TX7) (N := 10) hx hb hts hiX7 hown hK hP 0 rfl rfl 1 (Nat.le_of_ble_eq_true rfl) fl16 (fun _ h9 => h9) rfl dX7_drift_137 ?_
              refine hs_ciM (va_runV (As := []) (rest := []) ⟨hx, hb, hml, hown, hts⟩ (g_allWeights l D k _ h_trial tr_a n_N n_J (fun j => ([wf, u_11 1, u_11 2, u_11 3, u_11 4, u_11 5, u_11 6] : List (Nat → Int32)).getD j hsz) (by first | assumption | exact ⟨by first | omega | (dsimp; omega), by first | omega | (dsimp; omega), ⟨by first | omega | (dsimp; omega), by first | omega | (dsimp; omega)⟩, by first | omega | (dsimp; omega), by first | omega | (dsimp; omega)⟩)) (cwV 0 hts gX7_drift_X6_allWeights rfl rfl rfl ⟨rfl, hq_X6_allWeights⟩ ⟨Nat.le_of_ble_eq_true rfl, Nat.le_of_ble_eq_true rfl⟩) (hs_preV hK hN (hs_subP (w := [_, _, _, _, _, _, _, _]) hP [9, 10, 11, 12, 13, 14, 15, 16] rfl) (hD.sub (ws' := [_, _, _, _, _, _, _, _]) [9, 10, 11, 12, 13, 14, 15, 16] (hs_upnd rfl) rfl) (ci := 5) (q0 := 0) rfl rfl) rfl rfl hl.1 rfl (lv_room (Nat.le_of_ble_eq_true rfl)) dX7_drift_140 ⟨Nat.le_of_ble_eq_true rfl, Nat.le_of_ble_eq_true rfl⟩) hP hD hS hA [true, true, true, true, true, true, true, true, true, false, false, false, false, false, false, false, false] [_, _, _, _, _, _, _, _, _] [_, _, _, _, _, _, _, _] rfl [0, 1, 2, 3, 4, 5, 6, 7] rfl [0, 1, 2, 3, 4, 5, 6, 7] (fun u_21 => [_, _, _, _, _, _, _, _]) (fun _ => rfl) (hs_upnd rfl) [true, true, true, true, true, true, true, true, true, false, false, false, false, false, false, false, false] (fun u_21 => [_, _, _, _, _, _, _, _, _, _, _, _, _, _, _, _, _]) (fun _ => rfl) (fun r_19 u_21 H locs hw_20 hP hD hS => ?_)
              exact hs_iret hx hb hr hlocks hK hP hD hS (n_N, n_J, (fun j => ([(fun j => ([wf, u_11 1, u_11 2, u_11 3, u_11 4, u_11 5, u_11 6] : List (Nat → Int32)).getD j hsz) 0, (fun j => ([wf, u_11 1, u_11 2, u_11 3, u_11 4, u_11 5, u_11 6] : List (Nat → Int32)).getD j hsz) 1, (fun j => ([wf, u_11 1, u_11 2, u_11 3, u_11 4, u_11 5, u_11 6] : List (Nat → Int32)).getD j hsz) 2, (fun j => ([wf, u_11 1, u_11 2, u_11 3, u_11 4, u_11 5, u_11 6] : List (Nat → Int32)).getD j hsz) 3, (fun j => ([wf, u_11 1, u_11 2, u_11 3, u_11 4, u_11 5, u_11 6] : List (Nat → Int32)).getD j hsz) 4, (fun j => ([wf, u_11 1, u_11 2, u_11 3, u_11 4, u_11 5, u_11 6] : List (Nat → Int32)).getD j hsz) 5, (fun j => ([wf, u_11 1, u_11 2, u_11 3, u_11 4, u_11 5, u_11 6] : List (Nat → Int32)).getD j hsz) 6] : List (Nat → Int32)).getD j hsz)) [0, 1, 2, 3, 4, 5, 6, 7, 8, 9, 10, 11, 12, 13, 14, 15, 16] rfl (hs_upnd rfl) dX7_drift_143 (trivial)
            · refine lv_iload hx hb dX7_drift_131 (lv_at hl 1 rfl) ?_
              refine lv_goto (tgt := 143) hx hb dX7_drift_133 rfl ?_
              exact hs_iret hx hb hr hlocks hK hP hD hS (n_N, n_J, (fun j => ([wf, u_11 1, u_11 2, u_11 3, u_11 4, u_11 5, u_11 6] : List (Nat → Int32)).getD j hsz)) [0, 1, 2, 3, 4, 5, 6, 7, 8, 9, 10, 11, 12, 13, 14, 15, 16] rfl (hs_upnd rfl) dX7_drift_143 (trivial)
          · have nc_17 : ¬ (n_N 0) ≤ 0 := fun hq9 => c_17 ((nI_leI (a := (n_N 0)) (b := 0) (by omega) (by omega)).mpr hq9)
            refine lv_iload hx hb dX7_drift_57 (lv_at hl 2 rfl) ?_
            refine lv_ldc hx hb hown kc255 dX7_drift_59 ?_
            refine lv_imul hx hb dX7_drift_61 ?_
            refine lv_sipush (v := 12345) hx hb dX7_drift_62 hkp_12345 ?_
            refine lv_iadd hx hb dX7_drift_65 ?_
            refine lv_istore (lv' := [(4, .int ((at0 * 1103515245) + 12345)), (6, .int (nI i)), (5, .int sum), (0, .ref h), (1, .int seed), (2, .int (nI N)), (3, .int what)]) hx hb dX7_drift_66 hl (Nat.le_of_ble_eq_true rfl) rfl (fun ls hl => ?_)
            refine lv_iload hx hb dX7_drift_68 (lv_at hl 0 rfl) ?_
            refine lv_bipush (v := 16) hx hb dX7_drift_70 hkb_16 ?_
            refine lv_iushr hx hb dX7_drift_72 rfl ?_
            refine lv_sipush (v := 32767) hx hb dX7_drift_73 hkp_32767 ?_
            refine lv_iand hx hb dX7_drift_76 ?_
            obtain ⟨gt, hgt, egt⟩ := pk_andE (((((at0 * 1103515245) + 12345) : Int32).toUInt32 >>> (((16) : Int32).toUInt32 &&& Int32.toUInt32 31)).toInt32) (m := 32767) 15 (by decide)
            refine hs_topi (nI gt) egt ?_
            refine lv_istore (lv' := [(7, .int (nI gt)), (4, .int ((at0 * 1103515245) + 12345)), (6, .int (nI i)), (5, .int sum), (0, .ref h), (1, .int seed), (2, .int (nI N)), (3, .int what)]) hx hb dX7_drift_77 hl (Nat.le_of_ble_eq_true rfl) rfl (fun ls hl => ?_)
            refine lv_aload_n hx hb dX7_drift_79 rfl (lv_at hl 4 rfl) ?_
            refine va_get (D := D) (ci := 6) (v := .ref h_trial) (C := RX7) (T := TX7) (N := 10) hx hb hts hiX7 hown hK hP 0 rfl rfl 1 (Nat.le_of_ble_eq_true rfl) fl16 (fun _ h9 => h9) rfl dX7_drift_80 ?_
            refine va_get (D := D) (ci := 5) (v := .ref (tr_a 0)) (C := RX6) (T := TX6) (N := 15) hx hb hts hiX6 hown hK hP 9 rfl rfl 0 (Nat.le_of_ble_eq_true rfl) fl122 (fun _ h9 => h9) rfl dX7_drift_83 ?_
            refine lv_iload hx hb dX7_drift_86 (lv_at hl 0 rfl) ?_
            refine lv_aload_n hx hb dX7_drift_88 rfl (lv_at hl 4 rfl) ?_
            refine va_get (D := D) (ci := 6) (v := .ref h_trial) (C := RX7) (T := TX7) (N := 10) hx hb hts hiX7 hown hK hP 0 rfl rfl 1 (Nat.le_of_ble_eq_true rfl) fl16 (fun _ h9 => h9) rfl dX7_drift_89 ?_
            refine va_get (D := D) (ci := 5) (v := .int (nI (n_N 0))) (C := RX6) (T := TX6) (N := 15) hx hb hts hiX6 hown hK hP 9 rfl rfl 7 (Nat.le_of_ble_eq_true rfl) fl93 (fun _ h9 => h9) rfl dX7_drift_92 ?_
            refine lv_irem hx hb dX7_drift_95 (nI_ne0 (by omega) (by omega)) ?_
            have hgm := Nat.mod_lt gt (show 0 < n_N 0 by omega)
            refine hs_topi (nI (gt % n_N 0)) (pk_rem (by omega) (by omega) (by omega)) ?_
            refine lv_iload hx hb dX7_drift_96 (lv_at hl 0 rfl) ?_
            refine lv_bipush (v := 8) hx hb dX7_drift_98 hkb_8 ?_
            refine lv_idiv hx hb dX7_drift_100 (by decide) ?_
            refine lv_bipush (v := 10) hx hb dX7_drift_101 hkb_10 ?_
            refine lv_irem hx hb dX7_drift_103 (by decide) ?_
            refine va_iast hx hb hK hP hD hS 10 0 rfl rfl (vp_in_nI (show (gt % n_N 0) < 8 by omega) (by decide)) dX7_drift_104 (fun H locs hP hD hS => ?_)
            have hP : va_P D vwCl [_, _, _, _, _, _, _, _, _, _, oqI k (tr_a 0) 8 (upd wf ((nI (gt % n_N 0)).toNatClampNeg) (((nI gt) / 8) - ((nI gt) / 8) / 10 * 10)), oqF1 k tr_a u_11, oqF2 k tr_a u_11, oqF3 k tr_a u_11, oqF4 k tr_a u_11, oqF5 k tr_a u_11, oqF6 k tr_a u_11] H := hP
            have hD : va_D A [_, _, _, _, _, _, _, _, _, _, oqI k (tr_a 0) 8 (upd wf ((nI (gt % n_N 0)).toNatClampNeg) (((nI gt) / 8) - ((nI gt) / 8) / 10 * 10)), oqF1 k tr_a u_11, oqF2 k tr_a u_11, oqF3 k tr_a u_11, oqF4 k tr_a u_11, oqF5 k tr_a u_11, oqF6 k tr_a u_11] := hD
            refine lv_iload_n hx hb dX7_drift_105 rfl (lv_at hl 7 rfl) ?_
            refine lv_if_ne (tgt := 121) hx hb dX7_drift_106 rfl (fun c_22 => ?_) (fun c_22 => ?_)
            · refine lv_iinc (v := nI (i + 1)) (lv' := [(6, .int (nI (i + 1))), (7, .int (nI gt)), (4, .int ((at0 * 1103515245) + 12345)), (5, .int sum), (0, .ref h), (1, .int seed), (2, .int (nI N)), (3, .int what)]) hx hb dX7_drift_121 hl (k := 2) rfl (nI_add (i) 1) (Nat.le_of_ble_eq_true rfl) rfl (fun ls hl => ?_)
              refine lv_goto (tgt := 41) hx hb dX7_drift_124 rfl ?_
              exact ih41 ((at0 * 1103515245) + 12345, sum, i + 1, upd wf ((nI (gt % n_N 0)).toNatClampNeg) (((nI gt) / 8) - ((nI gt) / 8) / 10 * 10)) (by (try dsimp only); first | omega | (refine ⟨?_, ?_⟩ <;> first | omega | assumption)) (by (try dsimp only); omega) _ _ _ hP hD hS (lv_sub hl [0, 3, 2, 4, 5, 6, 7] rfl)
            · refine lv_iload hx hb dX7_drift_109 (lv_at hl 3 rfl) ?_
              refine lv_aload_n hx hb dX7_drift_111 rfl (lv_at hl 4 rfl) ?_
              refine va_get (D := D) (ci := 6) (v := .ref h_trial) (C := RX7) (T := TX7) (N := 10) hx hb hts hiX7 hown hK hP 0 rfl rfl 1 (Nat.le_of_ble_eq_true rfl) fl16 (fun _ h9 => h9) rfl dX7_drift_112 ?_
              refine hs_ciM (va_runV (As := []) (rest := [.int sum]) ⟨hx, hb, hml, hown, hts⟩ (g_justInAll l D k _ h_trial tr_a n_N n_J (fun j => ([upd wf ((nI (gt % n_N 0)).toNatClampNeg) (((nI gt) / 8) - ((nI gt) / 8) / 10 * 10), u_11 1, u_11 2, u_11 3, u_11 4, u_11 5, u_11 6] : List (Nat → Int32)).getD j hsz) (by first | assumption | exact ⟨by first | omega | (dsimp; omega), by first | omega | (dsimp; omega), ⟨by first | omega | (dsimp; omega), by first | omega | (dsimp; omega)⟩, by first | omega | (dsimp; omega), by first | omega | (dsimp; omega)⟩)) (cwV 0 hts gX7_drift_X6_justInAll rfl rfl rfl ⟨rfl, hq_X6_justInAll⟩ ⟨Nat.le_of_ble_eq_true rfl, Nat.le_of_ble_eq_true rfl⟩) (hs_preV hK hN (hs_subP (w := [_, _, _, _, _, _, _, _]) hP [9, 10, 11, 12, 13, 14, 15, 16] rfl) (hD.sub (ws' := [_, _, _, _, _, _, _, _]) [9, 10, 11, 12, 13, 14, 15, 16] (hs_upnd rfl) rfl) (ci := 5) (q0 := 0) rfl rfl) rfl rfl hl.1 rfl (lv_room (Nat.le_of_ble_eq_true rfl)) dX7_drift_115 ⟨Nat.le_of_ble_eq_true rfl, Nat.le_of_ble_eq_true rfl⟩) hP hD hS hA [true, true, true, true, true, true, true, true, true, false, false, false, false, false, false, false, false] [_, _, _, _, _, _, _, _, _] [_, _, _, _, _, _, _, _] rfl [0, 1, 2, 3, 4, 5, 6, 7] rfl [0, 1, 2, 3, 4, 5, 6, 7] (fun u_25 => [_, _, _, _, _, _, _, _]) (fun _ => rfl) (hs_upnd rfl) [true, true, true, true, true, true, true, true, true, false, false, false, false, false, false, false, false] (fun u_25 => [_, _, _, _, _, _, _, _, _, _, _, _, _, _, _, _, _]) (fun _ => rfl) (fun r_23 u_25 H locs hw_24 hP hD hS => ?_)
              refine lv_iadd hx hb dX7_drift_118 ?_
              refine lv_istore (lv' := [(5, .int (sum + r_23)), (7, .int (nI gt)), (4, .int ((at0 * 1103515245) + 12345)), (6, .int (nI i)), (0, .ref h), (1, .int seed), (2, .int (nI N)), (3, .int what)]) hx hb dX7_drift_119 hl (Nat.le_of_ble_eq_true rfl) rfl (fun ls hl => ?_)
              refine lv_iinc (v := nI (i + 1)) (lv' := [(6, .int (nI (i + 1))), (5, .int (sum + r_23)), (7, .int (nI gt)), (4, .int ((at0 * 1103515245) + 12345)), (0, .ref h), (1, .int seed), (2, .int (nI N)), (3, .int what)]) hx hb dX7_drift_121 hl (k := 3) rfl (nI_add (i) 1) (Nat.le_of_ble_eq_true rfl) rfl (fun ls hl => ?_)
              refine lv_goto (tgt := 41) hx hb dX7_drift_124 rfl ?_
              exact ih41 ((at0 * 1103515245) + 12345, sum + r_23, i + 1, (fun j => ([upd wf ((nI (gt % n_N 0)).toNatClampNeg) (((nI gt) / 8) - ((nI gt) / 8) / 10 * 10), u_11 1, u_11 2, u_11 3, u_11 4, u_11 5, u_11 6] : List (Nat → Int32)).getD j hsz) 0) (by (try dsimp only); first | omega | (refine ⟨?_, ?_⟩ <;> first | omega | assumption)) (by (try dsimp only); omega) _ _ _ hP hD hS (lv_sub hl [0, 1, 3, 4, 5, 6, 7] rfl)
      · (try dsimp only); first | omega | (refine ⟨?_, ?_⟩ <;> first | omega | assumption)
    · refine lv_iconst (v := (-1)) hx hb dX7_drift_19 hki_m1 ?_
      exact hs_iret hx hb hr hlocks hK hP hD hS (tr_N, tr_J, (fun j => ([tr_F 0, tr_F 1, tr_F 2, tr_F 3, tr_F 4, tr_F 5, tr_F 6] : List (Nat → Int32)).getD j hsz)) [0, 1, 2, 3, 4, 5, 6, 7, 8, 9, 10, 11, 12, 13, 14, 15, 16] rfl (hs_upnd rfl) dX7_drift_20 (trivial)
