set_option maxHeartbeats 4000000 in
set_option maxRecDepth 100000 in
theorem gp_fits (l : Launch) (D : va_G) (k : Nat → ClassId) (sz : Nat) (h : Nat) (h_now : Nat) (h_trial : Nat) (h_images : Nat) (h_imageThere : Nat) (h_teller : Nat) (h_ranks : Nat) (h_court : Nat) (h_sheets : Nat) (h_lf : Int32) (h_lt : Int32) (n_a : Nat → Nat) (n_N : Nat → Nat) (n_J : Nat → Int32) (n_F : Nat → Nat → Int32) (tr_a : Nat → Nat) (tr_N : Nat → Nat) (tr_J : Nat → Int32) (tr_F : Nat → Nat → Int32) (i : Int32) (hN0 : thN n_N) (hF : thF n_N n_F) (h2 : 2 ≤ n_N 0) : MI l yX7_fits wsX7_fits ({ frames := 4, cells := 0, slots := 0, locals := 94 }) D k [.ref h, .int i] [oq6 h h_now h_trial h_images h_imageThere h_teller h_ranks h_court h_sheets h_lf h_lt, oqT h_now n_a n_N n_J, oqF0 k n_a n_F, oqF1 k n_a n_F, oqF2 k n_a n_F, oqF3 k n_a n_F, oqF4 k n_a n_F, oqF5 k n_a n_F, oqF6 k n_a n_F, oqT h_trial tr_a tr_N tr_J, oqF0 k tr_a tr_F, oqF1 k tr_a tr_F, oqF2 k tr_a tr_F, oqF3 k tr_a tr_F, oqF4 k tr_a tr_F, oqF5 k tr_a tr_F, oqF6 k tr_a tr_F] sz (fun (r : Int32) (u : (Nat → Nat) × (Nat → Int32) × (Nat → Nat → Int32)) => True) (fun (u : (Nat → Nat) × (Nat → Int32) × (Nat → Nat → Int32)) => [oq6 h h_now h_trial h_images h_imageThere h_teller h_ranks h_court h_sheets h_lf h_lt, oqT h_now n_a n_N n_J, oqF0 k n_a n_F, oqF1 k n_a n_F, oqF2 k n_a n_F, oqF3 k n_a n_F, oqF4 k n_a n_F, oqF5 k n_a n_F, oqF6 k n_a n_F, oqT h_trial tr_a u.1 u.2.1, oqF0 k tr_a u.2.2, oqF1 k tr_a u.2.2, oqF2 k tr_a u.2.2, oqF3 k tr_a u.2.2, oqF4 k tr_a u.2.2, oqF5 k tr_a u.2.2, oqF6 k tr_a u.2.2]) := by
  refine Met.ofW (cc := cX7_fits) (maxL := 4) (ret := (some .int)) hpn_X7 rfl ?_
  intro p e s m args below meth c s₁ B hml hv
  obtain ⟨rfl, hsz, hP, hK, hD0, hN⟩ := hv
  have hx := B.exec
  have hb := B.bytes
  have hr := B.returns
  have hlocks := B.notSynchronized
  have hts := atoms_spec (ws := wsX7_fits) B.pre
  have hown := findClass_of_methodNamed B.named
  have hown : s.vm.findClass RX7 = some m.cls := hown
  have hiX6 : ∀ w ∈ u_ws RX6 TX6 15, w ∈ wsX7_fits := fun w9 hw9 => List.mem_cons_of_mem _ (igX6 w9 hw9)
  have hiX7 : ∀ w ∈ u_ws RX7 TX7 10, w ∈ wsX7_fits := fun w9 hw9 => List.mem_cons_of_mem _ (igX7 w9 hw9)
  have fl10 := hts (.fieldLink RX7 10 "HalfScales" "now" "LHalfScales$Thing;") (List.mem_cons_of_mem _ (hs_inG 1 215 rfl rfl))
  have fl16 := hts (.fieldLink RX7 16 "HalfScales" "trial" "LHalfScales$Thing;") (List.mem_cons_of_mem _ (hs_inG 1 216 rfl rfl))
  have fl122 := hts (.fieldLink RX7 122 "HalfScales$Thing" "weights" "[I") (List.mem_cons_of_mem _ (hs_inG 1 36 rfl rfl))
  have hNn := hN0
  obtain ⟨I0, I1, ⟨I2, I2b⟩, I3, I4⟩ := hN0
  subst hsz
  have hD := hD0.self (sz := s.heap.size)
  generalize hAe : va_A [oq6 h h_now h_trial h_images h_imageThere h_teller h_ranks h_court h_sheets h_lf h_lt, oqT h_now n_a n_N n_J, oqF0 k n_a n_F, oqF1 k n_a n_F, oqF2 k n_a n_F, oqF3 k n_a n_F, oqF4 k n_a n_F, oqF5 k n_a n_F, oqF6 k n_a n_F, oqT h_trial tr_a tr_N tr_J, oqF0 k tr_a tr_F, oqF1 k tr_a tr_F, oqF2 k tr_a tr_F, oqF3 k tr_a tr_F, oqF4 k tr_a tr_F, oqF5 k tr_a tr_F, oqF6 k tr_a tr_F] s.heap.size = A at hD ⊢
  have hA : ∀ q : Nat, s.heap.size ≤ q → A q := fun q h => by rw [← hAe]; exact Or.inr h
  have hS : va_S A s.heap s.heap [] := va_S.rf
  have hl := lv_entry ([.ref h, .int i]) (n := 4) (Nat.le_of_ble_eq_true rfl)
  rw [lg_entry_eq]
  generalize (lg_sl ([.ref h, .int i]) ++ List.replicate (4 - (lg_sl ([.ref h, .int i])).length) Slot.unset).toArray = ls at hl ⊢
  have hl : lv_has ls 4 [(0, .ref h), (1, .int i)] := hl
  have hP : va_P D vwCl [oq6 h h_now h_trial h_images h_imageThere h_teller h_ranks h_court h_sheets h_lf h_lt, oqT h_now n_a n_N n_J, oqF0 k n_a n_F, oqF1 k n_a n_F, oqF2 k n_a n_F, oqF3 k n_a n_F, oqF4 k n_a n_F, oqF5 k n_a n_F, oqF6 k n_a n_F, oqT h_trial tr_a tr_N tr_J, oqF0 k tr_a tr_F, oqF1 k tr_a tr_F, oqF2 k tr_a tr_F, oqF3 k tr_a tr_F, oqF4 k tr_a tr_F, oqF5 k tr_a tr_F, oqF6 k tr_a tr_F] s.heap := hP
  refine lv_aload_n hx hb dX7_fits_0 rfl (lv_at hl 0 rfl) ?_
  refine va_get (D := D) (ci := 6) (v := .ref h_now) (C := RX7) (T := TX7) (N := 10) hx hb hts hiX7 hown hK hP 0 rfl rfl 0 (Nat.le_of_ble_eq_true rfl) fl10 (fun _ h9 => h9) rfl dX7_fits_1 ?_
  refine lv_iload_n hx hb dX7_fits_4 rfl (lv_at hl 1 rfl) ?_
  refine hs_ciM (va_runV (As := [.int i]) (rest := []) ⟨hx, hb, hml, hown, hts⟩ (g_isCell l D k _ h_now n_a n_N n_J i (by first | assumption | exact ⟨by first | omega | (dsimp; omega), by first | omega | (dsimp; omega), ⟨by first | omega | (dsimp; omega), by first | omega | (dsimp; omega)⟩, by first | omega | (dsimp; omega), by first | omega | (dsimp; omega)⟩)) (cwV 1 hts gX7_fits_X6_isCell rfl rfl rfl ⟨rfl, hq_X6_isCell⟩ ⟨Nat.le_of_ble_eq_true rfl, Nat.le_of_ble_eq_true rfl⟩) (hs_preV hK hN (hs_subP (w := [_]) hP [1] rfl) (hD.sub (ws' := [_]) [1] (hs_upnd rfl) rfl) (ci := 5) (q0 := 0) rfl rfl) rfl rfl hl.1 rfl (lv_room (Nat.le_of_ble_eq_true rfl)) dX7_fits_5 ⟨Nat.le_of_ble_eq_true rfl, Nat.le_of_ble_eq_true rfl⟩) hP hD hS hA [true, false, true, true, true, true, true, true, true, true, true, true, true, true, true, true, true] [_, _, _, _, _, _, _, _, _, _, _, _, _, _, _, _] [_] rfl [0] rfl [0] (fun u_3 => [_]) (fun _ => rfl) (hs_upnd rfl) [true, false, true, true, true, true, true, true, true, true, true, true, true, true, true, true, true] (fun u_3 => [_, _, _, _, _, _, _, _, _, _, _, _, _, _, _, _, _]) (fun _ => rfl) (fun r_1 u_3 H locs hw_2 hP hD hS => ?_)
  refine hs_topi (hsb (hslt i (n_N 0))) hw_2 ?_
  refine lv_if_ne (tgt := 13) hx hb dX7_fits_8 rfl (fun c_4 => ?_) (fun c_4 => ?_)
  · obtain ⟨j_5, hj_5, rfl⟩ := hslt_ex (hs_nb c_4)
    refine lv_aload_n hx hb dX7_fits_13 rfl (lv_at hl 0 rfl) ?_
    refine va_get (D := D) (ci := 6) (v := .ref h_trial) (C := RX7) (T := TX7) (N := 10) hx hb hts hiX7 hown hK hP 0 rfl rfl 1 (Nat.le_of_ble_eq_true rfl) fl16 (fun _ h9 => h9) rfl dX7_fits_14 ?_
    refine lv_aload_n hx hb dX7_fits_17 rfl (lv_at hl 0 rfl) ?_
    refine va_get (D := D) (ci := 6) (v := .ref h_now) (C := RX7) (T := TX7) (N := 10) hx hb hts hiX7 hown hK hP 0 rfl rfl 0 (Nat.le_of_ble_eq_true rfl) fl10 (fun _ h9 => h9) rfl dX7_fits_18 ?_
    refine hs_cvM (va_runV (As := [.ref h_now]) (rest := []) ⟨hx, hb, hml, hown, hts⟩ (g_copyFrom l D k _ h_trial tr_a tr_N tr_J tr_F h_now n_a n_N n_J n_F) (cwV 1 hts gX7_fits_X6_copyFrom rfl rfl rfl ⟨rfl, hq_X6_copyFrom⟩ ⟨Nat.le_of_ble_eq_true rfl, Nat.le_of_ble_eq_true rfl⟩) (hs_preV hK hN (hs_subP (w := [_, _, _, _, _, _, _, _, _, _, _, _, _, _, _, _]) hP [9, 10, 11, 12, 13, 14, 15, 16, 1, 2, 3, 4, 5, 6, 7, 8] rfl) (hD.sub (ws' := [_, _, _, _, _, _, _, _, _, _, _, _, _, _, _, _]) [9, 10, 11, 12, 13, 14, 15, 16, 1, 2, 3, 4, 5, 6, 7, 8] (by decide +kernel) rfl) (ci := 5) (q0 := 0) rfl rfl) rfl rfl hl.1 rfl (lv_room (Nat.le_of_ble_eq_true rfl)) dX7_fits_21 ⟨Nat.le_of_ble_eq_true rfl, Nat.le_of_ble_eq_true rfl⟩) hP hD hS hA [true, false, false, false, false, false, false, false, false, false, false, false, false, false, false, false, false] [_] [_, _, _, _, _, _, _, _, _, _, _, _, _, _, _, _] rfl [8, 9, 10, 11, 12, 13, 14, 15, 0, 1, 2, 3, 4, 5, 6, 7] rfl [8, 9, 10, 11, 12, 13, 14, 15, 0, 1, 2, 3, 4, 5, 6, 7] (fun u_8 => [_, _, _, _, _, _, _, _, _, _, _, _, _, _, _, _]) (fun _ => rfl) (by decide +kernel) [true, false, false, false, false, false, false, false, false, false, false, false, false, false, false, false, false] (fun u_8 => [_, _, _, _, _, _, _, _, _, _, _, _, _, _, _, _, _]) (fun _ => rfl) (fun u_8 H locs hw_7 hP hD hS => ?_)
    have hw_7 : ∀ q i, i < hs7 q → u_8 q i = n_F q i := hw_7
    refine lv_iconst (v := 0) hx hb dX7_fits_24 hki_0 ?_
    refine lv_istore_n (lv' := [(2, .int 0), (0, .ref h), (1, .int (nI j_5))]) hx hb dX7_fits_25 rfl hl (Nat.le_of_ble_eq_true rfl) rfl (fun ls hl => ?_)
    refine lv_iconst (v := 0) hx hb dX7_fits_26 hki_0 ?_
    refine lv_istore_n (lv' := [(3, .int 0), (2, .int 0), (0, .ref h), (1, .int (nI j_5))]) hx hb dX7_fits_27 rfl hl (Nat.le_of_ble_eq_true rfl) rfl (fun ls hl => ?_)
    refine hs_while (σ := Int32 × Nat × (Nat → Int32)) (fun x => x.2.1 ≤ 10) (fun x => 10 - x.2.1) (fun x => [oq6 h h_now h_trial h_images h_imageThere h_teller h_ranks h_court h_sheets h_lf h_lt, oqT h_now n_a n_N n_J, oqF0 k n_a n_F, oqF1 k n_a n_F, oqF2 k n_a n_F, oqF3 k n_a n_F, oqF4 k n_a n_F, oqF5 k n_a n_F, oqF6 k n_a n_F, oqT h_trial tr_a n_N n_J, oqI k (tr_a 0) 8 ((x.2.2)), oqF1 k tr_a u_8, oqF2 k tr_a u_8, oqF3 k tr_a u_8, oqF4 k tr_a u_8, oqF5 k tr_a u_8, oqF6 k tr_a u_8]) (fun x => [(3, .int (nI (x.2.1))), (2, .int (x.1)), (0, .ref h), (1, .int (nI j_5))]) ?_ (0, 0, u_8 0) ?_ hP hD hS hl
    · intro x hI ih28 H locs ls hP hD hS hl
      obtain ⟨fo, v, wf⟩ := x
      try dsimp only at hI
      have hP : va_P D vwCl [_, _, _, _, _, _, _, _, _, _, oqI k (tr_a 0) 8 (wf), _, _, _, _, _, _] H := hP
      have hD : va_D A [_, _, _, _, _, _, _, _, _, _, oqI k (tr_a 0) 8 (wf), _, _, _, _, _, _] := hD
      have hl : lv_has ls 4 [(3, .int (nI v)), (2, .int fo), (0, .ref h), (1, .int (nI j_5))] := hl
      refine lv_iload_n hx hb dX7_fits_28 rfl (lv_at hl 0 rfl) ?_
      refine lv_bipush (v := 9) hx hb dX7_fits_29 hkb_9 ?_
      refine lv_icmp_gt (tgt := 66) hx hb dX7_fits_31 rfl (fun c_9 => ?_) (fun c_9 => ?_)
      · have nc_9 : 9 < v := (nI_ltI (a := 9) (b := v) (by omega) (by omega)).mp c_9
        refine lv_iload_n hx hb dX7_fits_66 rfl (lv_at hl 1 rfl) ?_
        exact hs_iret hx hb hr hlocks hK hP hD hS (n_N, n_J, (fun j => ([wf, u_8 1, u_8 2, u_8 3, u_8 4, u_8 5, u_8 6] : List (Nat → Int32)).getD j hsz)) [0, 1, 2, 3, 4, 5, 6, 7, 8, 9, 10, 11, 12, 13, 14, 15, 16] rfl (hs_upnd rfl) dX7_fits_67 (trivial)
      · have nc_9 : ¬ 9 < v := fun hq9 => c_9 ((nI_ltI (a := 9) (b := v) (by omega) (by omega)).mpr hq9)
        refine lv_aload_n hx hb dX7_fits_34 rfl (lv_at hl 2 rfl) ?_
        refine va_get (D := D) (ci := 6) (v := .ref h_trial) (C := RX7) (T := TX7) (N := 10) hx hb hts hiX7 hown hK hP 0 rfl rfl 1 (Nat.le_of_ble_eq_true rfl) fl16 (fun _ h9 => h9) rfl dX7_fits_35 ?_
        refine va_get (D := D) (ci := 5) (v := .ref (tr_a 0)) (C := RX6) (T := TX6) (N := 15) hx hb hts hiX6 hown hK hP 9 rfl rfl 0 (Nat.le_of_ble_eq_true rfl) fl122 (fun _ h9 => h9) rfl dX7_fits_38 ?_
        refine lv_iload_n hx hb dX7_fits_41 rfl (lv_at hl 3 rfl) ?_
        refine lv_iload_n hx hb dX7_fits_42 rfl (lv_at hl 0 rfl) ?_
        refine va_iast hx hb hK hP hD hS 10 0 rfl rfl (vp_in_nI (show j_5 < 8 by omega) (by decide)) dX7_fits_43 (fun H locs hP hD hS => ?_)
        have hP : va_P D vwCl [_, _, _, _, _, _, _, _, _, _, oqI k (tr_a 0) 8 (upd wf ((nI j_5).toNatClampNeg) (nI v)), _, _, _, _, _, _] H := hP
        have hD : va_D A [_, _, _, _, _, _, _, _, _, _, oqI k (tr_a 0) 8 (upd wf ((nI j_5).toNatClampNeg) (nI v)), _, _, _, _, _, _] := hD
        refine lv_aload_n hx hb dX7_fits_44 rfl (lv_at hl 2 rfl) ?_
        refine va_get (D := D) (ci := 6) (v := .ref h_trial) (C := RX7) (T := TX7) (N := 10) hx hb hts hiX7 hown hK hP 0 rfl rfl 1 (Nat.le_of_ble_eq_true rfl) fl16 (fun _ h9 => h9) rfl dX7_fits_45 ?_
        refine hs_ciM (va_runV (As := []) (rest := []) ⟨hx, hb, hml, hown, hts⟩ (g_isAsSeen l D k _ h_trial tr_a n_N n_J (fun j => ([upd wf ((nI j_5).toNatClampNeg) (nI v), u_8 1, u_8 2, u_8 3, u_8 4, u_8 5, u_8 6] : List (Nat → Int32)).getD j hsz) (by first | assumption | exact ⟨by first | omega | (dsimp; omega), by first | omega | (dsimp; omega), ⟨by first | omega | (dsimp; omega), by first | omega | (dsimp; omega)⟩, by first | omega | (dsimp; omega), by first | omega | (dsimp; omega)⟩) ⟨fun i hi => by show vp_in (u_8 3 i) 5; rw [hw_7 3 i (show i < 8 by omega)]; exact hF.1 i hi, fun i hi => by show vp_in (u_8 4 i) 4; rw [hw_7 4 i (show i < 6 by omega)]; exact hF.2 i hi⟩) (cwV 0 hts gX7_fits_X6_isAsSeen rfl rfl rfl ⟨rfl, hq_X6_isAsSeen⟩ ⟨Nat.le_of_ble_eq_true rfl, Nat.le_of_ble_eq_true rfl⟩) (hs_preV hK hN (hs_subP (w := [_, _, _, _, _, _, _, _]) hP [9, 10, 11, 12, 13, 14, 15, 16] rfl) (hD.sub (ws' := [_, _, _, _, _, _, _, _]) [9, 10, 11, 12, 13, 14, 15, 16] (hs_upnd rfl) rfl) (ci := 5) (q0 := 0) rfl rfl) rfl rfl hl.1 rfl (lv_room (Nat.le_of_ble_eq_true rfl)) dX7_fits_48 ⟨Nat.le_of_ble_eq_true rfl, Nat.le_of_ble_eq_true rfl⟩) hP hD hS hA [true, true, true, true, true, true, true, true, true, false, false, false, false, false, false, false, false] [_, _, _, _, _, _, _, _, _] [_, _, _, _, _, _, _, _] rfl [0, 1, 2, 3, 4, 5, 6, 7] rfl [0, 1, 2, 3, 4, 5, 6, 7] (fun u_12 => [_, _, _, _, _, _, _, _]) (fun _ => rfl) (hs_upnd rfl) [true, true, true, true, true, true, true, true, true, false, false, false, false, false, false, false, false] (fun u_12 => [_, _, _, _, _, _, _, _, _, _, _, _, _, _, _, _, _]) (fun _ => rfl) (fun r_10 u_12 H locs hw_11 hP hD hS => ?_)
        refine lv_if_eq (tgt := 60) hx hb dX7_fits_51 rfl (fun c_13 => ?_) (fun c_13 => ?_)
        · refine lv_iinc (v := nI (v + 1)) (lv' := [(3, .int (nI (v + 1))), (2, .int fo), (0, .ref h), (1, .int (nI j_5))]) hx hb dX7_fits_60 hl (k := 0) rfl (nI_add (v) 1) (Nat.le_of_ble_eq_true rfl) rfl (fun ls hl => ?_)
          refine lv_goto (tgt := 28) hx hb dX7_fits_63 rfl ?_
          exact ih28 (fo, v + 1, (fun j => ([upd wf ((nI j_5).toNatClampNeg) (nI v), u_8 1, u_8 2, u_8 3, u_8 4, u_8 5, u_8 6] : List (Nat → Int32)).getD j hsz) 0) (by (try dsimp only); first | omega | (refine ⟨?_, ?_⟩ <;> first | omega | assumption)) (by (try dsimp only); omega) _ _ _ hP hD hS (lv_sub hl [0, 1, 2, 3] rfl)
        · refine lv_iload_n hx hb dX7_fits_54 rfl (lv_at hl 1 rfl) ?_
          refine lv_iconst (v := 1) hx hb dX7_fits_55 hki_1 ?_
          refine lv_iload_n hx hb dX7_fits_56 rfl (lv_at hl 0 rfl) ?_
          refine lv_ishl hx hb dX7_fits_57 ?_
          refine lv_ior hx hb dX7_fits_58 ?_
          refine lv_istore_n (lv' := [(2, .int (fo ||| (1 <<< ((nI v) &&& 31)))), (3, .int (nI v)), (0, .ref h), (1, .int (nI j_5))]) hx hb dX7_fits_59 rfl hl (Nat.le_of_ble_eq_true rfl) rfl (fun ls hl => ?_)
          refine lv_iinc (v := nI (v + 1)) (lv' := [(3, .int (nI (v + 1))), (2, .int (fo ||| (1 <<< ((nI v) &&& 31)))), (0, .ref h), (1, .int (nI j_5))]) hx hb dX7_fits_60 hl (k := 1) rfl (nI_add (v) 1) (Nat.le_of_ble_eq_true rfl) rfl (fun ls hl => ?_)
          refine lv_goto (tgt := 28) hx hb dX7_fits_63 rfl ?_
          exact ih28 (fo ||| (1 <<< ((nI v) &&& 31)), v + 1, (fun j => ([upd wf ((nI j_5).toNatClampNeg) (nI v), u_8 1, u_8 2, u_8 3, u_8 4, u_8 5, u_8 6] : List (Nat → Int32)).getD j hsz) 0) (by (try dsimp only); first | omega | (refine ⟨?_, ?_⟩ <;> first | omega | assumption)) (by (try dsimp only); omega) _ _ _ hP hD hS (lv_sub hl [0, 1, 2, 3] rfl)
    · (try dsimp only); first | omega | (refine ⟨?_, ?_⟩ <;> first | omega | assumption)
  · refine lv_iconst (v := (-1)) hx hb dX7_fits_11 hki_m1 ?_
    exact hs_iret hx hb hr hlocks hK hP hD hS (tr_N, tr_J, (fun j => ([tr_F 0, tr_F 1, tr_F 2, tr_F 3, tr_F 4, tr_F 5, tr_F 6] : List (Nat → Int32)).getD j hsz)) [0, 1, 2, 3, 4, 5, 6, 7, 8, 9, 10, 11, 12, 13, 14, 15, 16] rfl (hs_upnd rfl) dX7_fits_12 (trivial)

set_option maxHeartbeats 4000000 in
set_option maxRecDepth 100000 in
theorem gp_kinds (l : Launch) (D : va_G) (k : Nat → ClassId) (sz : Nat) (h : Nat) (h_now : Nat) (h_trial : Nat) (h_images : Nat) (h_imageThere : Nat) (h_teller : Nat) (h_ranks : Nat) (h_court : Nat) (h_sheets : Nat) (h_lf : Int32) (h_lt : Int32) (n_a : Nat → Nat) (n_N : Nat → Nat) (n_J : Nat → Int32) (n_F : Nat → Nat → Int32) (tr_a : Nat → Nat) (tr_N : Nat → Nat) (tr_J : Nat → Int32) (tr_F : Nat → Nat → Int32) (i : Int32) (hN0 : thN n_N) (hF : thF n_N n_F) (h2 : 2 ≤ n_N 0) : MI l yX7_kinds wsX7_kinds ({ frames := 4, cells := 0, slots := 0, locals := 94 }) D k [.ref h, .int i] [oq6 h h_now h_trial h_images h_imageThere h_teller h_ranks h_court h_sheets h_lf h_lt, oqT h_now n_a n_N n_J, oqF0 k n_a n_F, oqF1 k n_a n_F, oqF2 k n_a n_F, oqF3 k n_a n_F, oqF4 k n_a n_F, oqF5 k n_a n_F, oqF6 k n_a n_F, oqT h_trial tr_a tr_N tr_J, oqF0 k tr_a tr_F, oqF1 k tr_a tr_F, oqF2 k tr_a tr_F, oqF3 k tr_a tr_F, oqF4 k tr_a tr_F, oqF5 k tr_a tr_F, oqF6 k tr_a tr_F] sz (fun (r : Int32) (u : (Nat → Nat) × (Nat → Int32) × (Nat → Nat → Int32)) => True) (fun (u : (Nat → Nat) × (Nat → Int32) × (Nat → Nat → Int32)) => [oq6 h h_now h_trial h_images h_imageThere h_teller h_ranks h_court h_sheets h_lf h_lt, oqT h_now n_a n_N n_J, oqF0 k n_a n_F, oqF1 k n_a n_F, oqF2 k n_a n_F, oqF3 k n_a n_F, oqF4 k n_a n_F, oqF5 k n_a n_F, oqF6 k n_a n_F, oqT h_trial tr_a u.1 u.2.1, oqF0 k tr_a u.2.2, oqF1 k tr_a u.2.2, oqF2 k tr_a u.2.2, oqF3 k tr_a u.2.2, oqF4 k tr_a u.2.2, oqF5 k tr_a u.2.2, oqF6 k tr_a u.2.2]) := by
  refine Met.ofW (cc := cX7_kinds) (maxL := 4) (ret := (some .int)) hpn_X7 rfl ?_
  intro p e s m args below meth c s₁ B hml hv
  obtain ⟨rfl, hsz, hP, hK, hD0, hN⟩ := hv
  have hx := B.exec
  have hb := B.bytes
  have hr := B.returns
  have hlocks := B.notSynchronized
  have hts := atoms_spec (ws := wsX7_kinds) B.pre
  have hown := findClass_of_methodNamed B.named
  have hown : s.vm.findClass RX7 = some m.cls := hown
  have hiX6 : ∀ w ∈ u_ws RX6 TX6 15, w ∈ wsX7_kinds := fun w9 hw9 => List.mem_cons_of_mem _ (igX6 w9 hw9)
  have hiX7 : ∀ w ∈ u_ws RX7 TX7 10, w ∈ wsX7_kinds := fun w9 hw9 => List.mem_cons_of_mem _ (igX7 w9 hw9)
  have fl10 := hts (.fieldLink RX7 10 "HalfScales" "now" "LHalfScales$Thing;") (List.mem_cons_of_mem _ (hs_inG 1 215 rfl rfl))
  have fl16 := hts (.fieldLink RX7 16 "HalfScales" "trial" "LHalfScales$Thing;") (List.mem_cons_of_mem _ (hs_inG 1 216 rfl rfl))
  have fl128 := hts (.fieldLink RX7 128 "HalfScales$Thing" "kindOf" "[I") (List.mem_cons_of_mem _ (hs_inG 1 39 rfl rfl))
  have hNn := hN0
  obtain ⟨I0, I1, ⟨I2, I2b⟩, I3, I4⟩ := hN0
  subst hsz
  have hD := hD0.self (sz := s.heap.size)
  generalize hAe : va_A [oq6 h h_now h_trial h_images h_imageThere h_teller h_ranks h_court h_sheets h_lf h_lt, oqT h_now n_a n_N n_J, oqF0 k n_a n_F, oqF1 k n_a n_F, oqF2 k n_a n_F, oqF3 k n_a n_F, oqF4 k n_a n_F, oqF5 k n_a n_F, oqF6 k n_a n_F, oqT h_trial tr_a tr_N tr_J, oqF0 k tr_a tr_F, oqF1 k tr_a tr_F, oqF2 k tr_a tr_F, oqF3 k tr_a tr_F, oqF4 k tr_a tr_F, oqF5 k tr_a tr_F, oqF6 k tr_a tr_F] s.heap.size = A at hD ⊢
  have hA : ∀ q : Nat, s.heap.size ≤ q → A q := fun q h => by rw [← hAe]; exact Or.inr h
  have hS : va_S A s.heap s.heap [] := va_S.rf
  have hl := lv_entry ([.ref h, .int i]) (n := 4) (Nat.le_of_ble_eq_true rfl)
  rw [lg_entry_eq]
  generalize (lg_sl ([.ref h, .int i]) ++ List.replicate (4 - (lg_sl ([.ref h, .int i])).length) Slot.unset).toArray = ls at hl ⊢
  have hl : lv_has ls 4 [(0, .ref h), (1, .int i)] := hl
  have hP : va_P D vwCl [oq6 h h_now h_trial h_images h_imageThere h_teller h_ranks h_court h_sheets h_lf h_lt, oqT h_now n_a n_N n_J, oqF0 k n_a n_F, oqF1 k n_a n_F, oqF2 k n_a n_F, oqF3 k n_a n_F, oqF4 k n_a n_F, oqF5 k n_a n_F, oqF6 k n_a n_F, oqT h_trial tr_a tr_N tr_J, oqF0 k tr_a tr_F, oqF1 k tr_a tr_F, oqF2 k tr_a tr_F, oqF3 k tr_a tr_F, oqF4 k tr_a tr_F, oqF5 k tr_a tr_F, oqF6 k tr_a tr_F] s.heap := hP
  refine lv_aload_n hx hb dX7_kinds_0 rfl (lv_at hl 0 rfl) ?_
  refine va_get (D := D) (ci := 6) (v := .ref h_now) (C := RX7) (T := TX7) (N := 10) hx hb hts hiX7 hown hK hP 0 rfl rfl 0 (Nat.le_of_ble_eq_true rfl) fl10 (fun _ h9 => h9) rfl dX7_kinds_1 ?_
  refine lv_iload_n hx hb dX7_kinds_4 rfl (lv_at hl 1 rfl) ?_
  refine hs_ciM (va_runV (As := [.int i]) (rest := []) ⟨hx, hb, hml, hown, hts⟩ (g_isPerson l D k _ h_now n_a n_N n_J i (by first | assumption | exact ⟨by first | omega | (dsimp; omega), by first | omega | (dsimp; omega), ⟨by first | omega | (dsimp; omega), by first | omega | (dsimp; omega)⟩, by first | omega | (dsimp; omega), by first | omega | (dsimp; omega)⟩)) (cwV 1 hts gX7_kinds_X6_isPerson rfl rfl rfl ⟨rfl, hq_X6_isPerson⟩ ⟨Nat.le_of_ble_eq_true rfl, Nat.le_of_ble_eq_true rfl⟩) (hs_preV hK hN (hs_subP (w := [_]) hP [1] rfl) (hD.sub (ws' := [_]) [1] (hs_upnd rfl) rfl) (ci := 5) (q0 := 0) rfl rfl) rfl rfl hl.1 rfl (lv_room (Nat.le_of_ble_eq_true rfl)) dX7_kinds_5 ⟨Nat.le_of_ble_eq_true rfl, Nat.le_of_ble_eq_true rfl⟩) hP hD hS hA [true, false, true, true, true, true, true, true, true, true, true, true, true, true, true, true, true] [_, _, _, _, _, _, _, _, _, _, _, _, _, _, _, _] [_] rfl [0] rfl [0] (fun u_3 => [_]) (fun _ => rfl) (hs_upnd rfl) [true, false, true, true, true, true, true, true, true, true, true, true, true, true, true, true, true] (fun u_3 => [_, _, _, _, _, _, _, _, _, _, _, _, _, _, _, _, _]) (fun _ => rfl) (fun r_1 u_3 H locs hw_2 hP hD hS => ?_)
  refine hs_topi (hsb (hslt i (n_N 1))) hw_2 ?_
  refine lv_if_ne (tgt := 13) hx hb dX7_kinds_8 rfl (fun c_4 => ?_) (fun c_4 => ?_)
  · obtain ⟨j_5, hj_5, rfl⟩ := hslt_ex (hs_nb c_4)
    refine lv_aload_n hx hb dX7_kinds_13 rfl (lv_at hl 0 rfl) ?_
    refine va_get (D := D) (ci := 6) (v := .ref h_trial) (C := RX7) (T := TX7) (N := 10) hx hb hts hiX7 hown hK hP 0 rfl rfl 1 (Nat.le_of_ble_eq_true rfl) fl16 (fun _ h9 => h9) rfl dX7_kinds_14 ?_
    refine lv_aload_n hx hb dX7_kinds_17 rfl (lv_at hl 0 rfl) ?_
    refine va_get (D := D) (ci := 6) (v := .ref h_now) (C := RX7) (T := TX7) (N := 10) hx hb hts hiX7 hown hK hP 0 rfl rfl 0 (Nat.le_of_ble_eq_true rfl) fl10 (fun _ h9 => h9) rfl dX7_kinds_18 ?_
    refine hs_cvM (va_runV (As := [.ref h_now]) (rest := []) ⟨hx, hb, hml, hown, hts⟩ (g_copyFrom l D k _ h_trial tr_a tr_N tr_J tr_F h_now n_a n_N n_J n_F) (cwV 1 hts gX7_kinds_X6_copyFrom rfl rfl rfl ⟨rfl, hq_X6_copyFrom⟩ ⟨Nat.le_of_ble_eq_true rfl, Nat.le_of_ble_eq_true rfl⟩) (hs_preV hK hN (hs_subP (w := [_, _, _, _, _, _, _, _, _, _, _, _, _, _, _, _]) hP [9, 10, 11, 12, 13, 14, 15, 16, 1, 2, 3, 4, 5, 6, 7, 8] rfl) (hD.sub (ws' := [_, _, _, _, _, _, _, _, _, _, _, _, _, _, _, _]) [9, 10, 11, 12, 13, 14, 15, 16, 1, 2, 3, 4, 5, 6, 7, 8] (by decide +kernel) rfl) (ci := 5) (q0 := 0) rfl rfl) rfl rfl hl.1 rfl (lv_room (Nat.le_of_ble_eq_true rfl)) dX7_kinds_21 ⟨Nat.le_of_ble_eq_true rfl, Nat.le_of_ble_eq_true rfl⟩) hP hD hS hA [true, false, false, false, false, false, false, false, false, false, false, false, false, false, false, false, false] [_] [_, _, _, _, _, _, _, _, _, _, _, _, _, _, _, _] rfl [8, 9, 10, 11, 12, 13, 14, 15, 0, 1, 2, 3, 4, 5, 6, 7] rfl [8, 9, 10, 11, 12, 13, 14, 15, 0, 1, 2, 3, 4, 5, 6, 7] (fun u_8 => [_, _, _, _, _, _, _, _, _, _, _, _, _, _, _, _]) (fun _ => rfl) (by decide +kernel) [true, false, false, false, false, false, false, false, false, false, false, false, false, false, false, false, false] (fun u_8 => [_, _, _, _, _, _, _, _, _, _, _, _, _, _, _, _, _]) (fun _ => rfl) (fun u_8 H locs hw_7 hP hD hS => ?_)
    have hw_7 : ∀ q i, i < hs7 q → u_8 q i = n_F q i := hw_7
    refine lv_iconst (v := 0) hx hb dX7_kinds_24 hki_0 ?_
    refine lv_istore_n (lv' := [(2, .int 0), (0, .ref h), (1, .int (nI j_5))]) hx hb dX7_kinds_25 rfl hl (Nat.le_of_ble_eq_true rfl) rfl (fun ls hl => ?_)
    refine lv_iconst (v := 0) hx hb dX7_kinds_26 hki_0 ?_
    refine lv_istore_n (lv' := [(3, .int 0), (2, .int 0), (0, .ref h), (1, .int (nI j_5))]) hx hb dX7_kinds_27 rfl hl (Nat.le_of_ble_eq_true rfl) rfl (fun ls hl => ?_)
    refine hs_while (σ := Int32 × Nat × (Nat → Int32)) (fun x => x.2.1 ≤ 4) (fun x => 4 - x.2.1) (fun x => [oq6 h h_now h_trial h_images h_imageThere h_teller h_ranks h_court h_sheets h_lf h_lt, oqT h_now n_a n_N n_J, oqF0 k n_a n_F, oqF1 k n_a n_F, oqF2 k n_a n_F, oqF3 k n_a n_F, oqF4 k n_a n_F, oqF5 k n_a n_F, oqF6 k n_a n_F, oqT h_trial tr_a n_N n_J, oqF0 k tr_a u_8, oqI k (tr_a 1) 4 ((x.2.2)), oqF2 k tr_a u_8, oqF3 k tr_a u_8, oqF4 k tr_a u_8, oqF5 k tr_a u_8, oqF6 k tr_a u_8]) (fun x => [(3, .int (nI (x.2.1))), (2, .int (x.1)), (0, .ref h), (1, .int (nI j_5))]) ?_ (0, 0, u_8 1) ?_ hP hD hS hl
    · intro x hI ih28 H locs ls hP hD hS hl
      obtain ⟨fo, v, wf⟩ := x
      try dsimp only at hI
      have hP : va_P D vwCl [_, _, _, _, _, _, _, _, _, _, _, oqI k (tr_a 1) 4 (wf), _, _, _, _, _] H := hP
      have hD : va_D A [_, _, _, _, _, _, _, _, _, _, _, oqI k (tr_a 1) 4 (wf), _, _, _, _, _] := hD
      have hl : lv_has ls 4 [(3, .int (nI v)), (2, .int fo), (0, .ref h), (1, .int (nI j_5))] := hl
      refine lv_iload_n hx hb dX7_kinds_28 rfl (lv_at hl 0 rfl) ?_
      refine lv_iconst (v := 3) hx hb dX7_kinds_29 hki_3 ?_
      refine lv_icmp_gt (tgt := 65) hx hb dX7_kinds_30 rfl (fun c_9 => ?_) (fun c_9 => ?_)
      · have nc_9 : 3 < v := (nI_ltI (a := 3) (b := v) (by omega) (by omega)).mp c_9
        refine lv_iload_n hx hb dX7_kinds_65 rfl (lv_at hl 1 rfl) ?_
        exact hs_iret hx hb hr hlocks hK hP hD hS (n_N, n_J, (fun j => ([u_8 0, wf, u_8 2, u_8 3, u_8 4, u_8 5, u_8 6] : List (Nat → Int32)).getD j hsz)) [0, 1, 2, 3, 4, 5, 6, 7, 8, 9, 10, 11, 12, 13, 14, 15, 16] rfl (hs_upnd rfl) dX7_kinds_66 (trivial)
      · have nc_9 : ¬ 3 < v := fun hq9 => c_9 ((nI_ltI (a := 3) (b := v) (by omega) (by omega)).mpr hq9)
        refine lv_aload_n hx hb dX7_kinds_33 rfl (lv_at hl 2 rfl) ?_
        refine va_get (D := D) (ci := 6) (v := .ref h_trial) (C := RX7) (T := TX7) (N := 10) hx hb hts hiX7 hown hK hP 0 rfl rfl 1 (Nat.le_of_ble_eq_true rfl) fl16 (fun _ h9 => h9) rfl dX7_kinds_34 ?_
        refine va_get (D := D) (ci := 5) (v := .ref (tr_a 1)) (C := RX6) (T := TX6) (N := 15) hx hb hts hiX6 hown hK hP 9 rfl rfl 1 (Nat.le_of_ble_eq_true rfl) fl128 (fun _ h9 => h9) rfl dX7_kinds_37 ?_
        refine lv_iload_n hx hb dX7_kinds_40 rfl (lv_at hl 3 rfl) ?_
        refine lv_iload_n hx hb dX7_kinds_41 rfl (lv_at hl 0 rfl) ?_
        refine va_iast hx hb hK hP hD hS 11 0 rfl rfl (vp_in_nI (show j_5 < 4 by omega) (by decide)) dX7_kinds_42 (fun H locs hP hD hS => ?_)
        have hP : va_P D vwCl [_, _, _, _, _, _, _, _, _, _, _, oqI k (tr_a 1) 4 (upd wf ((nI j_5).toNatClampNeg) (nI v)), _, _, _, _, _] H := hP
        have hD : va_D A [_, _, _, _, _, _, _, _, _, _, _, oqI k (tr_a 1) 4 (upd wf ((nI j_5).toNatClampNeg) (nI v)), _, _, _, _, _] := hD
        refine lv_aload_n hx hb dX7_kinds_43 rfl (lv_at hl 2 rfl) ?_
        refine va_get (D := D) (ci := 6) (v := .ref h_trial) (C := RX7) (T := TX7) (N := 10) hx hb hts hiX7 hown hK hP 0 rfl rfl 1 (Nat.le_of_ble_eq_true rfl) fl16 (fun _ h9 => h9) rfl dX7_kinds_44 ?_
        refine hs_ciM (va_runV (As := []) (rest := []) ⟨hx, hb, hml, hown, hts⟩ (g_isAsSeen l D k _ h_trial tr_a n_N n_J (fun j => ([u_8 0, upd wf ((nI j_5).toNatClampNeg) (nI v), u_8 2, u_8 3, u_8 4, u_8 5, u_8 6] : List (Nat → Int32)).getD j hsz) (by first | assumption | exact ⟨by first | omega | (dsimp; omega), by first | omega | (dsimp; omega), ⟨by first | omega | (dsimp; omega), by first | omega | (dsimp; omega)⟩, by first | omega | (dsimp; omega), by first | omega | (dsimp; omega)⟩) ⟨fun i hi => by show vp_in (u_8 3 i) 5; rw [hw_7 3 i (show i < 8 by omega)]; exact hF.1 i hi, fun i hi => by show vp_in (u_8 4 i) 4; rw [hw_7 4 i (show i < 6 by omega)]; exact hF.2 i hi⟩) (cwV 0 hts gX7_kinds_X6_isAsSeen rfl rfl rfl ⟨rfl, hq_X6_isAsSeen⟩ ⟨Nat.le_of_ble_eq_true rfl, Nat.le_of_ble_eq_true rfl⟩) (hs_preV hK hN (hs_subP (w := [_, _, _, _, _, _, _, _]) hP [9, 10, 11, 12, 13, 14, 15, 16] rfl) (hD.sub (ws' := [_, _, _, _, _, _, _, _]) [9, 10, 11, 12, 13, 14, 15, 16] (hs_upnd rfl) rfl) (ci := 5) (q0 := 0) rfl rfl) rfl rfl hl.1 rfl (lv_room (Nat.le_of_ble_eq_true rfl)) dX7_kinds_47 ⟨Nat.le_of_ble_eq_true rfl, Nat.le_of_ble_eq_true rfl⟩) hP hD hS hA [true, true, true, true, true, true, true, true, true, false, false, false, false, false, false, false, false] [_, _, _, _, _, _, _, _, _] [_, _, _, _, _, _, _, _] rfl [0, 1, 2, 3, 4, 5, 6, 7] rfl [0, 1, 2, 3, 4, 5, 6, 7] (fun u_12 => [_, _, _, _, _, _, _, _]) (fun _ => rfl) (hs_upnd rfl) [true, true, true, true, true, true, true, true, true, false, false, false, false, false, false, false, false] (fun u_12 => [_, _, _, _, _, _, _, _, _, _, _, _, _, _, _, _, _]) (fun _ => rfl) (fun r_10 u_12 H locs hw_11 hP hD hS => ?_)
        refine lv_if_eq (tgt := 59) hx hb dX7_kinds_50 rfl (fun c_13 => ?_) (fun c_13 => ?_)
        · refine lv_iinc (v := nI (v + 1)) (lv' := [(3, .int (nI (v + 1))), (2, .int fo), (0, .ref h), (1, .int (nI j_5))]) hx hb dX7_kinds_59 hl (k := 0) rfl (nI_add (v) 1) (Nat.le_of_ble_eq_true rfl) rfl (fun ls hl => ?_)
          refine lv_goto (tgt := 28) hx hb dX7_kinds_62 rfl ?_
          exact ih28 (fo, v + 1, (fun j => ([u_8 0, upd wf ((nI j_5).toNatClampNeg) (nI v), u_8 2, u_8 3, u_8 4, u_8 5, u_8 6] : List (Nat → Int32)).getD j hsz) 1) (by (try dsimp only); first | omega | (refine ⟨?_, ?_⟩ <;> first | omega | assumption)) (by (try dsimp only); omega) _ _ _ hP hD hS (lv_sub hl [0, 1, 2, 3] rfl)
        · refine lv_iload_n hx hb dX7_kinds_53 rfl (lv_at hl 1 rfl) ?_
          refine lv_iconst (v := 1) hx hb dX7_kinds_54 hki_1 ?_
          refine lv_iload_n hx hb dX7_kinds_55 rfl (lv_at hl 0 rfl) ?_
          refine lv_ishl hx hb dX7_kinds_56 ?_
          refine lv_ior hx hb dX7_kinds_57 ?_
          refine lv_istore_n (lv' := [(2, .int (fo ||| (1 <<< ((nI v) &&& 31)))), (3, .int (nI v)), (0, .ref h), (1, .int (nI j_5))]) hx hb dX7_kinds_58 rfl hl (Nat.le_of_ble_eq_true rfl) rfl (fun ls hl => ?_)
          refine lv_iinc (v := nI (v + 1)) (lv' := [(3, .int (nI (v + 1))), (2, .int (fo ||| (1 <<< ((nI v) &&& 31)))), (0, .ref h), (1, .int (nI j_5))]) hx hb dX7_kinds_59 hl (k := 1) rfl (nI_add (v) 1) (Nat.le_of_ble_eq_true rfl) rfl (fun ls hl => ?_)
          refine lv_goto (tgt := 28) hx hb dX7_kinds_62 rfl ?_
          exact ih28 (fo ||| (1 <<< ((nI v) &&& 31)), v + 1, (fun j => ([u_8 0, upd wf ((nI j_5).toNatClampNeg) (nI v), u_8 2, u_8 3, u_8 4, u_8 5, u_8 6] : List (Nat → Int32)).getD j hsz) 1) (by (try dsimp only); first | omega | (refine ⟨?_, ?_⟩ <;> first | omega | assumption)) (by (try dsimp only); omega) _ _ _ hP hD hS (lv_sub hl [0, 1, 2, 3] rfl)
    · (try dsimp only); first | omega | (refine ⟨?_, ?_⟩ <;> first | omega | assumption)
  · refine lv_iconst (v := (-1)) hx hb dX7_kinds_11 hki_m1 ?_
    exact hs_iret hx hb hr hlocks hK hP hD hS (tr_N, tr_J, (fun j => ([tr_F 0, tr_F 1, tr_F 2, tr_F 3, tr_F 4, tr_F 5, tr_F 6] : List (Nat → Int32)).getD j hsz)) [0, 1, 2, 3, 4, 5, 6, 7, 8, 9, 10, 11, 12, 13, 14, 15, 16] rfl (hs_upnd rfl) dX7_kinds_12 (trivial)
