set_option maxHeartbeats 4000000 in
set_option maxRecDepth 100000 in
theorem gpf_read (l : Launch) (D : va_G) (k : Nat → ClassId) (sz : Nat) (h : Nat) (h_now : Nat) (h_trial : Nat) (h_images : Nat) (h_imageThere : Nat) (h_teller : Nat) (h_ranks : Nat) (h_court : Nat) (h_sheets : Nat) (h_lf : Int32) (h_lt : Int32) (sh0 : Nat) (sh1 : Nat) (sh2 : Nat) (sh3 : Nat) (s_row : Nat → Nat) (s_la : Nat → Int32) (s_z : Nat → Nat) (s_r : Nat → Nat → Int32) (n_a : Nat → Nat) (n_N : Nat → Nat) (n_J : Nat → Int32) (n_F : Nat → Nat → Int32) (i : Int32) (v : Int32) (f : Int32) (n : Int32) (hN0 : thN n_N) (hF : thF n_N n_F) (h2 : 2 ≤ n_N 0) (hz0 : s_z 0 ≤ 40) (hz1 : s_z 1 ≤ 40) (hz2 : s_z 2 ≤ 40) (hz3 : s_z 3 ≤ 40) : MI l yX7_read wsX7_read ({ frames := 4, cells := 0, slots := 0, locals := 88 }) D k [.ref h, .int i, .int v, .int f, .int n] [oq6 h h_now h_trial h_images h_imageThere h_teller h_ranks h_court h_sheets h_lf h_lt, (h_sheets, .inl (k 3, 4, .inr (.inr (.inr (.inr (va_up (va_up (va_up (va_up (fun _ => none) 0 (some sh0)) 1 (some sh1)) 2 (some sh2)) 3 (some sh3))))))), oq2 sh0 (s_row 0) (s_la 0) (nI (s_z 0)), oqI k (s_row 0) 40 (s_r 0), oq2 sh1 (s_row 1) (s_la 1) (nI (s_z 1)), oqI k (s_row 1) 40 (s_r 1), oq2 sh2 (s_row 2) (s_la 2) (nI (s_z 2)), oqI k (s_row 2) 40 (s_r 2), oq2 sh3 (s_row 3) (s_la 3) (nI (s_z 3)), oqI k (s_row 3) 40 (s_r 3), oqT h_now n_a n_N n_J, oqF0 k n_a n_F, oqF1 k n_a n_F, oqF2 k n_a n_F, oqF3 k n_a n_F, oqF4 k n_a n_F, oqF5 k n_a n_F, oqF6 k n_a n_F] sz (fun (r : Int32) (u : (Nat → Int32) × Int32) => cRd (n_N 0) s_la s_z s_r h_lt (n_F 0) i v f n r u) (fun (u : (Nat → Int32) × Int32) => [oq6 h h_now h_trial h_images h_imageThere h_teller h_ranks h_court h_sheets h_lf u.2, (h_sheets, .inl (k 3, 4, .inr (.inr (.inr (.inr (va_up (va_up (va_up (va_up (fun _ => none) 0 (some sh0)) 1 (some sh1)) 2 (some sh2)) 3 (some sh3))))))), oq2 sh0 (s_row 0) (s_la 0) (nI (s_z 0)), oqI k (s_row 0) 40 (s_r 0), oq2 sh1 (s_row 1) (s_la 1) (nI (s_z 1)), oqI k (s_row 1) 40 (s_r 1), oq2 sh2 (s_row 2) (s_la 2) (nI (s_z 2)), oqI k (s_row 2) 40 (s_r 2), oq2 sh3 (s_row 3) (s_la 3) (nI (s_z 3)), oqI k (s_row 3) 40 (s_r 3), oqT h_now n_a n_N n_J, oqI k (n_a 0) 8 (u.1), oqF1 k n_a n_F, oqF2 k n_a n_F, oqF3 k n_a n_F, oqF4 k n_a n_F, oqF5 k n_a n_F, oqF6 k n_a n_F]) := by
  refine Met.ofW (cc := cX7_read) (maxL := 9) (ret := (some .int)) hpn_X7 rfl ?_
  intro p e s m args below meth c s₁ B hml hv
  obtain ⟨rfl, hsz, hP, hK, hD0, hN⟩ := hv
  have hx := B.exec
  have hb := B.bytes
  have hr := B.returns
  have hlocks := B.notSynchronized
  have hts := atoms_spec (ws := wsX7_read) B.pre
  have hown := findClass_of_methodNamed B.named
  have hown : s.vm.findClass RX7 = some m.cls := hown
  have hiX7 : ∀ w ∈ u_ws RX7 TX7 10, w ∈ wsX7_read := fun w9 hw9 => List.mem_cons_of_mem _ (igX7 w9 hw9)
  have fl50 := hts (.fieldLink RX7 50 "HalfScales" "sheets" "[LHalfScales$Sheet;") (List.mem_cons_of_mem _ (hs_inG 1 222 rfl rfl))
  have fl283 := hts (.fieldLink RX7 283 "HalfScales" "latestTorn" "I") (List.mem_cons_of_mem _ (hs_inG 1 224 rfl rfl))
  have fl10 := hts (.fieldLink RX7 10 "HalfScales" "now" "LHalfScales$Thing;") (List.mem_cons_of_mem _ (hs_inG 1 215 rfl rfl))
  have hNn := hN0
  obtain ⟨I0, I1, ⟨I2, I2b⟩, I3, I4⟩ := hN0
  subst hsz
  have hD := hD0.self (sz := s.heap.size)
  generalize hAe : va_A [oq6 h h_now h_trial h_images h_imageThere h_teller h_ranks h_court h_sheets h_lf h_lt, (h_sheets, .inl (k 3, 4, .inr (.inr (.inr (.inr (va_up (va_up (va_up (va_up (fun _ => none) 0 (some sh0)) 1 (some sh1)) 2 (some sh2)) 3 (some sh3))))))), oq2 sh0 (s_row 0) (s_la 0) (nI (s_z 0)), oqI k (s_row 0) 40 (s_r 0), oq2 sh1 (s_row 1) (s_la 1) (nI (s_z 1)), oqI k (s_row 1) 40 (s_r 1), oq2 sh2 (s_row 2) (s_la 2) (nI (s_z 2)), oqI k (s_row 2) 40 (s_r 2), oq2 sh3 (s_row 3) (s_la 3) (nI (s_z 3)), oqI k (s_row 3) 40 (s_r 3), oqT h_now n_a n_N n_J, oqF0 k n_a n_F, oqF1 k n_a n_F, oqF2 k n_a n_F, oqF3 k n_a n_F, oqF4 k n_a n_F, oqF5 k n_a n_F, oqF6 k n_a n_F] s.heap.size = A at hD ⊢
  have hA : ∀ q : Nat, s.heap.size ≤ q → A q := fun q h => by rw [← hAe]; exact Or.inr h
  have hS : va_S A s.heap s.heap [] := va_S.rf
  have hl := lv_entry ([.ref h, .int i, .int v, .int f, .int n]) (n := 9) (Nat.le_of_ble_eq_true rfl)
  rw [lg_entry_eq]
  generalize (lg_sl ([.ref h, .int i, .int v, .int f, .int n]) ++ List.replicate (9 - (lg_sl ([.ref h, .int i, .int v, .int f, .int n])).length) Slot.unset).toArray = ls at hl ⊢
  have hl : lv_has ls 9 [(0, .ref h), (1, .int i), (2, .int v), (3, .int f), (4, .int n)] := hl
  have hP : va_P D vwCl [oq6 h h_now h_trial h_images h_imageThere h_teller h_ranks h_court h_sheets h_lf h_lt, (h_sheets, .inl (k 3, 4, .inr (.inr (.inr (.inr (va_up (va_up (va_up (va_up (fun _ => none) 0 (some sh0)) 1 (some sh1)) 2 (some sh2)) 3 (some sh3))))))), oq2 sh0 (s_row 0) (s_la 0) (nI (s_z 0)), oqI k (s_row 0) 40 (s_r 0), oq2 sh1 (s_row 1) (s_la 1) (nI (s_z 1)), oqI k (s_row 1) 40 (s_r 1), oq2 sh2 (s_row 2) (s_la 2) (nI (s_z 2)), oqI k (s_row 2) 40 (s_r 2), oq2 sh3 (s_row 3) (s_la 3) (nI (s_z 3)), oqI k (s_row 3) 40 (s_r 3), oqT h_now n_a n_N n_J, oqF0 k n_a n_F, oqF1 k n_a n_F, oqF2 k n_a n_F, oqF3 k n_a n_F, oqF4 k n_a n_F, oqF5 k n_a n_F, oqF6 k n_a n_F] s.heap := hP
  refine lv_iload_n hx hb dX7_read_0 rfl (lv_at hl 1 rfl) ?_
  refine hs_pi (va_runS (As := [.int i]) (rest := []) ⟨hx, hb, hml, hown, hts⟩ (g_isSheet l D k _ i) (va_cwS 1 hts gX7_read_X7_isSheet rfl rfl rfl hq_X7_isSheet ⟨Nat.le_of_ble_eq_true rfl, Nat.le_of_ble_eq_true rfl⟩) (hs_preS hK hN (hs_subP (w := []) hP [] rfl) (hD.sub (ws' := []) [] rfl rfl)) rfl rfl hl.1 rfl (lv_room (Nat.le_of_ble_eq_true rfl)) dX7_read_1 ⟨Nat.le_of_ble_eq_true rfl, Nat.le_of_ble_eq_true rfl⟩) hP hD hS hA (fun r_1 u_3 H locs hw_2 hP hS => ?_)
  refine hs_topi (hsb (hsin i 0 3)) hw_2 ?_
  refine lv_if_eq (tgt := 25) hx hb dX7_read_4 rfl (fun c_4 => ?_) (fun c_4 => ?_)
  · refine lv_iconst (v := (-1)) hx hb dX7_read_25 hki_m1 ?_
    exact hs_iret hx hb hr hlocks hK hP hD hS (n_F 0, h_lt) [0, 1, 2, 3, 4, 5, 6, 7, 8, 9, 10, 11, 12, 13, 14, 15, 16, 17] rfl (hs_upnd rfl) dX7_read_26 (Or.inl ⟨hs_rbad (Or.inl (hs_n0 c_4)), rfl, rfl⟩)
  · rcases hs_v03 (hs_nb c_4) with rfl | rfl | rfl | rfl
    · refine lv_iload_n hx hb dX7_read_7 rfl (lv_at hl 2 rfl) ?_
      refine hs_pi (va_runS (As := [.int v]) (rest := []) ⟨hx, hb, hml, hown, hts⟩ (g_isLane l D k _ v) (va_cwS 1 hts gX7_read_X3_isLane rfl rfl rfl hq_X3_isLane ⟨Nat.le_of_ble_eq_true rfl, Nat.le_of_ble_eq_true rfl⟩) (hs_preS hK hN (hs_subP (w := []) hP [] rfl) (hD.sub (ws' := []) [] rfl rfl)) rfl rfl hl.1 rfl (lv_room (Nat.le_of_ble_eq_true rfl)) dX7_read_8 ⟨Nat.le_of_ble_eq_true rfl, Nat.le_of_ble_eq_true rfl⟩) hP hD hS hA (fun r_5 u_7 H locs hw_6 hP hS => ?_)
      refine hs_topi (hsb (hsin v 0 2)) hw_6 ?_
      refine lv_if_eq (tgt := 25) hx hb dX7_read_11 rfl (fun c_8 => ?_) (fun c_8 => ?_)
      · refine lv_iconst (v := (-1)) hx hb dX7_read_25 hki_m1 ?_
        exact hs_iret hx hb hr hlocks hK hP hD hS (n_F 0, h_lt) [0, 1, 2, 3, 4, 5, 6, 7, 8, 9, 10, 11, 12, 13, 14, 15, 16, 17] rfl (hs_upnd rfl) dX7_read_26 (Or.inl ⟨hs_rbad (Or.inr (Or.inl (hs_n0 c_8))), rfl, rfl⟩)
      · refine lv_iload hx hb dX7_read_14 (lv_at hl 4 rfl) ?_
        refine lv_iconst (v := 0) hx hb dX7_read_16 hki_0 ?_
        refine lv_bipush (v := 20) hx hb dX7_read_17 hkb_20 ?_
        refine hs_pi (va_runS (As := [.int n, .int 0, .int 20]) (rest := []) ⟨hx, hb, hml, hown, hts⟩ (g_within l D k _ n 0 20) (va_cwS 3 hts gX7_read_X7_within rfl rfl rfl hq_X7_within ⟨Nat.le_of_ble_eq_true rfl, Nat.le_of_ble_eq_true rfl⟩) (hs_preS hK hN (hs_subP (w := []) hP [] rfl) (hD.sub (ws' := []) [] rfl rfl)) rfl rfl hl.1 rfl (lv_room (Nat.le_of_ble_eq_true rfl)) dX7_read_19 ⟨Nat.le_of_ble_eq_true rfl, Nat.le_of_ble_eq_true rfl⟩) hP hD hS hA (fun r_9 u_11 H locs hw_10 hP hS => ?_)
        refine hs_topi (hsb (hsin n 0 20)) hw_10 ?_
        refine lv_if_ne (tgt := 27) hx hb dX7_read_22 rfl (fun c_12 => ?_) (fun c_12 => ?_)
        · obtain ⟨nn, hnn, hnnb, rfl⟩ := hs_rng (lo := 0) (hi := 20) (by omega) (by omega) (hs_nb c_12)
          refine lv_aload_n hx hb dX7_read_27 rfl (lv_at hl 0 rfl) ?_
          refine va_get (D := D) (ci := 6) (v := .ref h_sheets) (C := RX7) (T := TX7) (N := 10) hx hb hts hiX7 hown hK hP 0 rfl rfl 7 (Nat.le_of_ble_eq_true rfl) fl50 (fun _ h9 => h9) rfl dX7_read_28 ?_
          refine lv_iload_n hx hb dX7_read_31 rfl (lv_at hl 1 rfl) ?_
          refine va_aldq hx hb hK hP 1 3 rfl rfl (hs_in (by decide)) dX7_read_32 ?_
          refine W.eq (g2 := F0 m 33 ls (.ref sh0 :: [])) rfl ?_
          refine lv_astore (lv' := [(5, .ref sh0), (0, .ref h), (1, .int 0), (2, .int v), (3, .int f), (4, .int (nI nn))]) hx hb dX7_read_33 hl (Nat.le_of_ble_eq_true rfl) rfl (fun ls hl => ?_)
          refine lv_iconst (v := 0) hx hb dX7_read_35 hki_0 ?_
          refine lv_istore (lv' := [(6, .int 0), (5, .ref sh0), (0, .ref h), (1, .int 0), (2, .int v), (3, .int f), (4, .int (nI nn))]) hx hb dX7_read_36 hl (Nat.le_of_ble_eq_true rfl) rfl (fun ls hl => ?_)
          refine lv_iconst (v := 0) hx hb dX7_read_38 hki_0 ?_
          refine lv_istore (lv' := [(7, .int 0), (6, .int 0), (5, .ref sh0), (0, .ref h), (1, .int 0), (2, .int v), (3, .int f), (4, .int (nI nn))]) hx hb dX7_read_39 hl (Nat.le_of_ble_eq_true rfl) rfl (fun ls hl => ?_)
          refine lv_iconst (v := 0) hx hb dX7_read_41 hki_0 ?_
          refine lv_istore (lv' := [(8, .int 0), (7, .int 0), (6, .int 0), (5, .ref sh0), (0, .ref h), (1, .int 0), (2, .int v), (3, .int f), (4, .int (nI nn))]) hx hb dX7_read_42 hl (Nat.le_of_ble_eq_true rfl) rfl (fun ls hl => ?_)
          refine hs_while (σ := Int32 × Nat × Nat) (fun x => x.2.2 ≤ nn ∧ x.2.1 ≤ x.2.2 ∧ (x.1 = 0 → (x.2.1 = x.2.2 ∧ ∀ j, j < x.2.2 → okR (n_N 0) (s_la 0) (s_z 0) (s_r 0) v f j)) ∧ (¬ x.1 = 0 → (x.2.1 + 1 = x.2.2 ∧ (∀ j, j < x.2.1 → okR (n_N 0) (s_la 0) (s_z 0) (s_r 0) v f j) ∧ x.1 = fTw (s_la 0) (s_z 0) v (pRd f x.2.1)))) (fun x => nn - x.2.2) (fun x => [oq6 h h_now h_trial h_images h_imageThere h_teller h_ranks h_court h_sheets h_lf h_lt, (h_sheets, .inl (k 3, 4, .inr (.inr (.inr (.inr (va_up (va_up (va_up (va_up (fun _ => none) 0 (some sh0)) 1 (some sh1)) 2 (some sh2)) 3 (some sh3))))))), oq2 sh0 (s_row 0) (s_la 0) (nI (s_z 0)), oqI k (s_row 0) 40 (s_r 0), oq2 sh1 (s_row 1) (s_la 1) (nI (s_z 1)), oqI k (s_row 1) 40 (s_r 1), oq2 sh2 (s_row 2) (s_la 2) (nI (s_z 2)), oqI k (s_row 2) 40 (s_r 2), oq2 sh3 (s_row 3) (s_la 3) (nI (s_z 3)), oqI k (s_row 3) 40 (s_r 3), oqT h_now n_a n_N n_J, oqF0 k n_a n_F, oqF1 k n_a n_F, oqF2 k n_a n_F, oqF3 k n_a n_F, oqF4 k n_a n_F, oqF5 k n_a n_F, oqF6 k n_a n_F]) (fun x => [(8, .int (nI (x.2.2))), (7, .int (nI (x.2.1))), (6, .int (x.1)), (5, .ref sh0), (0, .ref h), (1, .int 0), (2, .int v), (3, .int f), (4, .int (nI nn))]) ?_ (0, 0, 0) ?_ hP hD hS hl
          · intro x hI ih44 H locs ls hP hD hS hl
            obtain ⟨fo, wh, x1⟩ := x
            try dsimp only at hI
            have hP : va_P D vwCl [oq6 h h_now h_trial h_images h_imageThere h_teller h_ranks h_court h_sheets h_lf h_lt, (h_sheets, .inl (k 3, 4, .inr (.inr (.inr (.inr (va_up (va_up (va_up (va_up (fun _ => none) 0 (some sh0)) 1 (some sh1)) 2 (some sh2)) 3 (some sh3))))))), oq2 sh0 (s_row 0) (s_la 0) (nI (s_z 0)), oqI k (s_row 0) 40 (s_r 0), oq2 sh1 (s_row 1) (s_la 1) (nI (s_z 1)), oqI k (s_row 1) 40 (s_r 1), oq2 sh2 (s_row 2) (s_la 2) (nI (s_z 2)), oqI k (s_row 2) 40 (s_r 2), oq2 sh3 (s_row 3) (s_la 3) (nI (s_z 3)), oqI k (s_row 3) 40 (s_r 3), oqT h_now n_a n_N n_J, oqF0 k n_a n_F, oqF1 k n_a n_F, oqF2 k n_a n_F, oqF3 k n_a n_F, oqF4 k n_a n_F, oqF5 k n_a n_F, oqF6 k n_a n_F] H := hP
            have hD : va_D A [oq6 h h_now h_trial h_images h_imageThere h_teller h_ranks h_court h_sheets h_lf h_lt, (h_sheets, .inl (k 3, 4, .inr (.inr (.inr (.inr (va_up (va_up (va_up (va_up (fun _ => none) 0 (some sh0)) 1 (some sh1)) 2 (some sh2)) 3 (some sh3))))))), oq2 sh0 (s_row 0) (s_la 0) (nI (s_z 0)), oqI k (s_row 0) 40 (s_r 0), oq2 sh1 (s_row 1) (s_la 1) (nI (s_z 1)), oqI k (s_row 1) 40 (s_r 1), oq2 sh2 (s_row 2) (s_la 2) (nI (s_z 2)), oqI k (s_row 2) 40 (s_r 2), oq2 sh3 (s_row 3) (s_la 3) (nI (s_z 3)), oqI k (s_row 3) 40 (s_r 3), oqT h_now n_a n_N n_J, oqF0 k n_a n_F, oqF1 k n_a n_F, oqF2 k n_a n_F, oqF3 k n_a n_F, oqF4 k n_a n_F, oqF5 k n_a n_F, oqF6 k n_a n_F] := hD
            have hl : lv_has ls 9 [(8, .int (nI x1)), (7, .int (nI wh)), (6, .int fo), (5, .ref sh0), (0, .ref h), (1, .int 0), (2, .int v), (3, .int f), (4, .int (nI nn))] := hl
            refine lv_iload hx hb dX7_read_44 (lv_at hl 0 rfl) ?_
            refine lv_iload hx hb dX7_read_46 (lv_at hl 8 rfl) ?_
            refine lv_icmp_ge (tgt := 124) hx hb dX7_read_48 rfl (fun c_13 => ?_) (fun c_13 => ?_)
            · have nc_13 : nn ≤ x1 := (nI_leI (a := nn) (b := x1) (by omega) (by omega)).mp c_13
              have hI44 := hI
              have hok9 : ∀ j, j < wh → okR (n_N 0) (s_la 0) (s_z 0) (s_r 0) v f j := fun j hj => if e9 : fo = 0 then (hI.2.2.1 e9).2 j (by have h9 := (hI.2.2.1 e9).1; omega) else (hI.2.2.2 e9).2.1 j hj
              refine lv_iconst (v := 0) hx hb dX7_read_124 hki_0 ?_
              refine lv_istore (lv' := [(8, .int 0), (7, .int (nI wh)), (6, .int fo), (5, .ref sh0), (0, .ref h), (1, .int 0), (2, .int v), (3, .int f), (4, .int (nI nn))]) hx hb dX7_read_125 hl (Nat.le_of_ble_eq_true rfl) rfl (fun ls hl => ?_)
              refine hs_while (σ := Nat × (Nat → Int32)) (fun x => x.1 ≤ wh ∧ x.2 = wtR (s_z 0) (s_r 0) f (n_F 0) x.1) (fun x => wh - x.1) (fun x => [oq6 h h_now h_trial h_images h_imageThere h_teller h_ranks h_court h_sheets h_lf h_lt, (h_sheets, .inl (k 3, 4, .inr (.inr (.inr (.inr (va_up (va_up (va_up (va_up (fun _ => none) 0 (some sh0)) 1 (some sh1)) 2 (some sh2)) 3 (some sh3))))))), oq2 sh0 (s_row 0) (s_la 0) (nI (s_z 0)), oqI k (s_row 0) 40 (s_r 0), oq2 sh1 (s_row 1) (s_la 1) (nI (s_z 1)), oqI k (s_row 1) 40 (s_r 1), oq2 sh2 (s_row 2) (s_la 2) (nI (s_z 2)), oqI k (s_row 2) 40 (s_r 2), oq2 sh3 (s_row 3) (s_la 3) (nI (s_z 3)), oqI k (s_row 3) 40 (s_r 3), oqT h_now n_a n_N n_J, oqI k (n_a 0) 8 ((x.2)), oqF1 k n_a n_F, oqF2 k n_a n_F, oqF3 k n_a n_F, oqF4 k n_a n_F, oqF5 k n_a n_F, oqF6 k n_a n_F]) (fun x => [(8, .int (nI (x.1))), (7, .int (nI wh)), (6, .int fo), (5, .ref sh0), (0, .ref h), (1, .int 0), (2, .int v), (3, .int f), (4, .int (nI nn))]) ?_ (0, n_F 0) ?_ hP hD hS hl
              · intro x hI ih127 H locs ls hP hD hS hl
                obtain ⟨x2, wf⟩ := x
                try dsimp only at hI
                have hP : va_P D vwCl [_, _, _, _, _, _, _, _, _, _, _, oqI k (n_a 0) 8 (wf), _, _, _, _, _, _] H := hP
                have hD : va_D A [_, _, _, _, _, _, _, _, _, _, _, oqI k (n_a 0) 8 (wf), _, _, _, _, _, _] := hD
                have hl : lv_has ls 9 [(8, .int (nI x2)), (7, .int (nI wh)), (6, .int fo), (5, .ref sh0), (0, .ref h), (1, .int 0), (2, .int v), (3, .int f), (4, .int (nI nn))] := hl
                refine lv_iload hx hb dX7_read_127 (lv_at hl 0 rfl) ?_
                refine lv_iload hx hb dX7_read_129 (lv_at hl 1 rfl) ?_
                refine lv_icmp_ge (tgt := 169) hx hb dX7_read_131 rfl (fun c_14 => ?_) (fun c_14 => ?_)
                · have nc_14 : wh ≤ x2 := (nI_leI (a := wh) (b := x2) (by omega) (by omega)).mp c_14
                  refine lv_aload_n hx hb dX7_read_169 rfl (lv_at hl 4 rfl) ?_
                  refine lv_iload hx hb dX7_read_170 (lv_at hl 2 rfl) ?_
                  refine va_put (D := D) (ci := 6) (v := .int fo) (ty := .int) (C := RX7) (T := TX7) (N := 10) hx hb hts hiX7 tyX7 tyX7_ok nmX7 hown hK hP hD hS 0 rfl rfl 9 (Nat.le_of_ble_eq_true rfl) fl283 (fun _ h9 => h9) rfl (by decide +kernel) rfl rfl (Nat.le_of_ble_eq_true rfl) dX7_read_172 (fun H locs hP hD hS => ?_)
                  have hP : va_P D vwCl [oq6 h h_now h_trial h_images h_imageThere h_teller h_ranks h_court h_sheets h_lf fo, _, _, _, _, _, _, _, _, _, _, _, _, _, _, _, _, _] H := hP
                  have hD : va_D A [oq6 h h_now h_trial h_images h_imageThere h_teller h_ranks h_court h_sheets h_lf fo, _, _, _, _, _, _, _, _, _, _, _, _, _, _, _, _, _] := hD
                  refine lv_iload hx hb dX7_read_175 (lv_at hl 1 rfl) ?_
                  exact hs_iret hx hb hr hlocks hK hP hD hS (wf, fo) [0, 1, 2, 3, 4, 5, 6, 7, 8, 9, 10, 11, 12, 13, 14, 15, 16, 17] rfl (hs_upnd rfl) dX7_read_177 (Or.inr ⟨0, nn, by decide, rfl, by omega, rfl, hs_nb c_8, (if e9 : fo = 0 then (by have h9 := (hI44.2.2.1 e9).1; have hx9 := hI44.1; have h2 : wh = nn := (by first | omega | exact absurd e9 (by assumption)); exact ⟨wh, by omega, hok9, Or.inr (Or.inl ⟨h2, rfl, by (try dsimp only); rw [hI.2, show x2 = wh by omega, e9]⟩)⟩) else (by have h9 := hI44.2.2.2 e9; have hx9 := hI44.1; exact ⟨wh, by omega, hok9, Or.inr (Or.inr ⟨by omega, by rw [← h9.2.2]; exact e9, rfl, by (try dsimp only); rw [hI.2, show x2 = wh by omega, ← h9.2.2]⟩)⟩))⟩)
                · have nc_14 : ¬ wh ≤ x2 := fun hq9 => c_14 ((nI_leI (a := wh) (b := x2) (by omega) (by omega)).mpr hq9)
                  refine lv_aload_n hx hb dX7_read_134 rfl (lv_at hl 4 rfl) ?_
                  refine lv_aload hx hb dX7_read_135 (lv_at hl 3 rfl) ?_
                  refine lv_iload_n hx hb dX7_read_137 rfl (lv_at hl 7 rfl) ?_
                  refine lv_iconst (v := 2) hx hb dX7_read_138 hki_2 ?_
                  refine lv_iload hx hb dX7_read_139 (lv_at hl 0 rfl) ?_
                  refine lv_imul hx hb dX7_read_141 ?_
                  refine hs_topi (nI (2 * x2)) (pk_mul (2) (x2)) ?_
                  refine lv_iadd hx hb dX7_read_142 ?_
                  refine hs_ciM (va_runV (As := [.int (f + (nI (2 * x2)))]) (rest := [.ref h]) ⟨hx, hb, hml, hown, hts⟩ (gf_at l D k _ sh0 (s_row 0) (s_la 0) (s_z 0) (f + (nI (2 * x2))) (s_r 0) (by omega)) (cwV 1 hts gX7_read_X3_at rfl rfl rfl ⟨rfl, hq_X3_at⟩ ⟨Nat.le_of_ble_eq_true rfl, Nat.le_of_ble_eq_true rfl⟩) (hs_preV hK hN (hs_subP (w := [_, _]) hP [2, 3] rfl) (hD.sub (ws' := [_, _]) [2, 3] (hs_upnd rfl) rfl) (ci := 2) (q0 := 0) rfl rfl) rfl rfl hl.1 rfl (lv_room (Nat.le_of_ble_eq_true rfl)) dX7_read_143 ⟨Nat.le_of_ble_eq_true rfl, Nat.le_of_ble_eq_true rfl⟩) hP hD hS hA [true, true, false, false, true, true, true, true, true, true, true, true, true, true, true, true, true, true] [_, _, _, _, _, _, _, _, _, _, _, _, _, _, _, _] [_, _] rfl [0, 1] rfl [0, 1] (fun u_17 => [_, _]) (fun _ => rfl) (hs_upnd rfl) [true, true, false, false, true, true, true, true, true, true, true, true, true, true, true, true, true, true] (fun u_17 => [_, _, _, _, _, _, _, _, _, _, _, _, _, _, _, _, _, _]) (fun _ => rfl) (fun r_15 u_17 H locs hw_16 hP hD hS => ?_)
                  refine hs_topi (aTs (s_z 0) (s_r 0) (f + (nI (2 * x2)))) hw_16 ?_
                  refine lv_aload hx hb dX7_read_146 (lv_at hl 3 rfl) ?_
                  refine lv_iload_n hx hb dX7_read_148 rfl (lv_at hl 7 rfl) ?_
                  refine lv_iconst (v := 2) hx hb dX7_read_149 hki_2 ?_
                  refine lv_iload hx hb dX7_read_150 (lv_at hl 0 rfl) ?_
                  refine lv_imul hx hb dX7_read_152 ?_
                  refine hs_topi (nI (2 * x2)) (pk_mul (2) (x2)) ?_
                  refine lv_iadd hx hb dX7_read_153 ?_
                  refine lv_iconst (v := 1) hx hb dX7_read_154 hki_1 ?_
                  refine lv_iadd hx hb dX7_read_155 ?_
                  refine hs_ciM (va_runV (As := [.int ((f + (nI (2 * x2))) + 1)]) (rest := [.int (aTs (s_z 0) (s_r 0) (f + (nI (2 * x2)))), .ref h]) ⟨hx, hb, hml, hown, hts⟩ (gf_at l D k _ sh0 (s_row 0) (s_la 0) (s_z 0) ((f + (nI (2 * x2))) + 1) (s_r 0) (by omega)) (cwV 1 hts gX7_read_X3_at rfl rfl rfl ⟨rfl, hq_X3_at⟩ ⟨Nat.le_of_ble_eq_true rfl, Nat.le_of_ble_eq_true rfl⟩) (hs_preV hK hN (hs_subP (w := [_, _]) hP [2, 3] rfl) (hD.sub (ws' := [_, _]) [2, 3] (hs_upnd rfl) rfl) (ci := 2) (q0 := 0) rfl rfl) rfl rfl hl.1 rfl (lv_room (Nat.le_of_ble_eq_true rfl)) dX7_read_156 ⟨Nat.le_of_ble_eq_true rfl, Nat.le_of_ble_eq_true rfl⟩) hP hD hS hA [true, true, false, false, true, true, true, true, true, true, true, true, true, true, true, true, true, true] [_, _, _, _, _, _, _, _, _, _, _, _, _, _, _, _] [_, _] rfl [0, 1] rfl [0, 1] (fun u_20 => [_, _]) (fun _ => rfl) (hs_upnd rfl) [true, true, false, false, true, true, true, true, true, true, true, true, true, true, true, true, true, true] (fun u_20 => [_, _, _, _, _, _, _, _, _, _, _, _, _, _, _, _, _, _]) (fun _ => rfl) (fun r_18 u_20 H locs hw_19 hP hD hS => ?_)
                  refine hs_topi (aTs (s_z 0) (s_r 0) ((f + (nI (2 * x2))) + 1)) hw_19 ?_
                  refine hs_ciM (va_runV (As := [.int (aTs (s_z 0) (s_r 0) (f + (nI (2 * x2)))), .int (aTs (s_z 0) (s_r 0) ((f + (nI (2 * x2))) + 1))]) (rest := []) ⟨hx, hb, hml, hown, hts⟩ (gpf_weigh l D k _ h h_now h_trial h_images h_imageThere h_teller h_ranks h_court h_sheets h_lf h_lt n_a n_N n_J (fun j => ([wf, n_F 1, n_F 2, n_F 3, n_F 4, n_F 5, n_F 6] : List (Nat → Int32)).getD j hsz) (aTs (s_z 0) (s_r 0) (f + (nI (2 * x2)))) (aTs (s_z 0) (s_r 0) ((f + (nI (2 * x2))) + 1)) hNn ⟨hF.1, hF.2⟩ h2) (cwV 2 hts gX7_read_X7_weigh rfl rfl rfl ⟨rfl, hq_X7_weigh⟩ ⟨Nat.le_of_ble_eq_true rfl, Nat.le_of_ble_eq_true rfl⟩) (hs_preV hK hN (hs_subP (w := [_, _, _, _, _, _, _, _, _]) hP [0, 10, 11, 12, 13, 14, 15, 16, 17] rfl) (hD.sub (ws' := [_, _, _, _, _, _, _, _, _]) [0, 10, 11, 12, 13, 14, 15, 16, 17] (hs_upnd rfl) rfl) (ci := 6) (q0 := 0) rfl rfl) rfl rfl hl.1 rfl (lv_room (Nat.le_of_ble_eq_true rfl)) dX7_read_159 ⟨Nat.le_of_ble_eq_true rfl, Nat.le_of_ble_eq_true rfl⟩) hP hD hS hA [false, true, true, true, true, true, true, true, true, true, false, false, false, false, false, false, false, false] [_, _, _, _, _, _, _, _, _] [_, _, _, _, _, _, _, _, _] rfl [0, 1, 2, 3, 4, 5, 6, 7, 8] rfl [0, 1, 2, 3, 4, 5, 6, 7, 8] (fun u_23 => [_, _, _, _, _, _, _, _, _]) (fun _ => rfl) (hs_upnd rfl) [false, true, true, true, true, true, true, true, true, true, false, false, false, false, false, false, false, false] (fun u_23 => [_, _, _, _, _, _, _, _, _, _, _, _, _, _, _, _, _, _]) (fun _ => rfl) (fun r_21 u_23 H locs hw_22 hP hD hS => ?_)
                  have hw_22 : cWg (n_N 0) ((fun j => ([wf, n_F 1, n_F 2, n_F 3, n_F 4, n_F 5, n_F 6] : List (Nat → Int32)).getD j hsz) 0) (aTs (s_z 0) (s_r 0) (f + (nI (2 * x2)))) (aTs (s_z 0) (s_r 0) ((f + (nI (2 * x2))) + 1)) r_21 u_23 := hw_22
                  refine lv_pop hx hb dX7_read_162 rfl ?_
                  refine lv_iinc (v := nI (x2 + 1)) (lv' := [(8, .int (nI (x2 + 1))), (7, .int (nI wh)), (6, .int fo), (5, .ref sh0), (0, .ref h), (1, .int 0), (2, .int v), (3, .int f), (4, .int (nI nn))]) hx hb dX7_read_163 hl (k := 0) rfl (nI_add (x2) 1) (Nat.le_of_ble_eq_true rfl) rfl (fun ls hl => ?_)
                  refine lv_goto (tgt := 127) hx hb dX7_read_166 rfl ?_
                  exact ih127 (x2 + 1, u_23) (by (try dsimp only); exact ⟨by omega, (by rw [cWg_ok hw_22 (hok9 x2 (by omega)).2, hI.2]; rfl)⟩) (by (try dsimp only); omega) _ _ _ hP hD hS (lv_sub hl [0, 1, 2, 3, 4, 5, 6, 7, 8] rfl)
              · (try dsimp only); exact ⟨Nat.zero_le _, rfl⟩
            · have nc_13 : ¬ nn ≤ x1 := fun hq9 => c_13 ((nI_leI (a := nn) (b := x1) (by omega) (by omega)).mpr hq9)
              refine lv_iload hx hb dX7_read_51 (lv_at hl 2 rfl) ?_
              refine lv_if_ne (tgt := 124) hx hb dX7_read_53 rfl (fun c_24 => ?_) (fun c_24 => ?_)
              · have hI44 := hI
                have hok9 : ∀ j, j < wh → okR (n_N 0) (s_la 0) (s_z 0) (s_r 0) v f j := fun j hj => if e9 : fo = 0 then (hI.2.2.1 e9).2 j (by have h9 := (hI.2.2.1 e9).1; omega) else (hI.2.2.2 e9).2.1 j hj
                refine lv_iconst (v := 0) hx hb dX7_read_124 hki_0 ?_
                refine lv_istore (lv' := [(8, .int 0), (7, .int (nI wh)), (6, .int fo), (5, .ref sh0), (0, .ref h), (1, .int 0), (2, .int v), (3, .int f), (4, .int (nI nn))]) hx hb dX7_read_125 hl (Nat.le_of_ble_eq_true rfl) rfl (fun ls hl => ?_)
                refine hs_while (σ := Nat × (Nat → Int32)) (fun x => x.1 ≤ wh ∧ x.2 = wtR (s_z 0) (s_r 0) f (n_F 0) x.1) (fun x => wh - x.1) (fun x => [oq6 h h_now h_trial h_images h_imageThere h_teller h_ranks h_court h_sheets h_lf h_lt, (h_sheets, .inl (k 3, 4, .inr (.inr (.inr (.inr (va_up (va_up (va_up (va_up (fun _ => none) 0 (some sh0)) 1 (some sh1)) 2 (some sh2)) 3 (some sh3))))))), oq2 sh0 (s_row 0) (s_la 0) (nI (s_z 0)), oqI k (s_row 0) 40 (s_r 0), oq2 sh1 (s_row 1) (s_la 1) (nI (s_z 1)), oqI k (s_row 1) 40 (s_r 1), oq2 sh2 (s_row 2) (s_la 2) (nI (s_z 2)), oqI k (s_row 2) 40 (s_r 2), oq2 sh3 (s_row 3) (s_la 3) (nI (s_z 3)), oqI k (s_row 3) 40 (s_r 3), oqT h_now n_a n_N n_J, oqI k (n_a 0) 8 ((x.2)), oqF1 k n_a n_F, oqF2 k n_a n_F, oqF3 k n_a n_F, oqF4 k n_a n_F, oqF5 k n_a n_F, oqF6 k n_a n_F]) (fun x => [(8, .int (nI (x.1))), (7, .int (nI wh)), (6, .int fo), (5, .ref sh0), (0, .ref h), (1, .int 0), (2, .int v), (3, .int f), (4, .int (nI nn))]) ?_ (0, n_F 0) ?_ hP hD hS hl
                · intro x hI ih127 H locs ls hP hD hS hl
                  obtain ⟨x2, wf⟩ := x
                  try dsimp only at hI
                  have hP : va_P D vwCl [_, _, _, _, _, _, _, _, _, _, _, oqI k (n_a 0) 8 (wf), oqF1 k n_a n_F, oqF2 k n_a n_F, oqF3 k n_a n_F, oqF4 k n_a n_F, oqF5 k n_a n_F, oqF6 k n_a n_F] H := hP
                  have hD : va_D A [_, _, _, _, _, _, _, _, _, _, _, oqI k (n_a 0) 8 (wf), oqF1 k n_a n_F, oqF2 k n_a n_F, oqF3 k n_a n_F, oqF4 k n_a n_F, oqF5 k n_a n_F, oqF6 k n_a n_F] := hD
                  have hl : lv_has ls 9 [(8, .int (nI x2)), (7, .int (nI wh)), (6, .int fo), (5, .ref sh0), (0, .ref h), (1, .int 0), (2, .int v), (3, .int f), (4, .int (nI nn))] := hl
                  refine lv_iload hx hb dX7_read_127 (lv_at hl 0 rfl) ?_
                  refine lv_iload hx hb dX7_read_129 (lv_at hl 1 rfl) ?_
                  refine lv_icmp_ge (tgt := 169) hx hb dX7_read_131 rfl (fun c_25 => ?_) (fun c_25 => ?_)
                  · have nc_25 : wh ≤ x2 := (nI_leI (a := wh) (b := x2) (by omega) (by omega)).mp c_25
                    refine lv_aload_n hx hb dX7_read_169 rfl (lv_at hl 4 rfl) ?_
                    refine lv_iload hx hb dX7_read_170 (lv_at hl 2 rfl) ?_
                    refine va_put (D := D) (ci := 6) (v := .int fo) (ty := .int) (C := RX7) (T := TX7) (N := 10) hx hb hts hiX7 tyX7 tyX7_ok nmX7 hown hK hP hD hS 0 rfl rfl 9 (Nat.le_of_ble_eq_true rfl) fl283 (fun _ h9 => h9) rfl (by decide +kernel) rfl rfl (Nat.le_of_ble_eq_true rfl) dX7_read_172 (fun H locs hP hD hS => ?_)
                    have hP : va_P D vwCl [oq6 h h_now h_trial h_images h_imageThere h_teller h_ranks h_court h_sheets h_lf fo, _, _, _, _, _, _, _, _, _, _, _, _, _, _, _, _, _] H := hP
                    have hD : va_D A [oq6 h h_now h_trial h_images h_imageThere h_teller h_ranks h_court h_sheets h_lf fo, _, _, _, _, _, _, _, _, _, _, _, _, _, _, _, _, _] := hD
                    refine lv_iload hx hb dX7_read_175 (lv_at hl 1 rfl) ?_
                    exact hs_iret hx hb hr hlocks hK hP hD hS (wf, fo) [0, 1, 2, 3, 4, 5, 6, 7, 8, 9, 10, 11, 12, 13, 14, 15, 16, 17] rfl (hs_upnd rfl) dX7_read_177 (Or.inr ⟨0, nn, by decide, rfl, by omega, rfl, hs_nb c_8, (if e9 : fo = 0 then (by have h9 := (hI44.2.2.1 e9).1; have hx9 := hI44.1; have h2 : wh = nn := (by first | omega | exact absurd e9 (by assumption)); exact ⟨wh, by omega, hok9, Or.inr (Or.inl ⟨h2, rfl, by (try dsimp only); rw [hI.2, show x2 = wh by omega, e9]⟩)⟩) else (by have h9 := hI44.2.2.2 e9; have hx9 := hI44.1; exact ⟨wh, by omega, hok9, Or.inr (Or.inr ⟨by omega, by rw [← h9.2.2]; exact e9, rfl, by (try dsimp only); rw [hI.2, show x2 = wh by omega, ← h9.2.2]⟩)⟩))⟩)
                  · have nc_25 : ¬ wh ≤ x2 := fun hq9 => c_25 ((nI_leI (a := wh) (b := x2) (by omega) (by omega)).mpr hq9)
                    refine lv_aload_n hx hb dX7_read_134 rfl (lv_at hl 4 rfl) ?_
                    refine lv_aload hx hb dX7_read_135 (lv_at hl 3 rfl) ?_
                    refine lv_iload_n hx hb dX7_read_137 rfl (lv_at hl 7 rfl) ?_
                    refine lv_iconst (v := 2) hx hb dX7_read_138 hki_2 ?_
                    refine lv_iload hx hb dX7_read_139 (lv_at hl 0 rfl) ?_
                    refine lv_imul hx hb dX7_read_141 ?_
                    refine hs_topi (nI (2 * x2)) (pk_mul (2) (x2)) ?_
                    refine lv_iadd hx hb dX7_read_142 ?_
                    refine hs_ciM (va_runV (As := [.int (f + (nI (2 * x2)))]) (rest := [.ref h]) ⟨hx, hb, hml, hown, hts⟩ (gf_at l D k _ sh0 (s_row 0) (s_la 0) (s_z 0) (f + (nI (2 * x2))) (s_r 0) (by omega)) (cwV 1 hts gX7_read_X3_at rfl rfl rfl ⟨rfl, hq_X3_at⟩ ⟨Nat.le_of_ble_eq_true rfl, Nat.le_of_ble_eq_true rfl⟩) (hs_preV hK hN (hs_subP (w := [_, _]) hP [2, 3] rfl) (hD.sub (ws' := [_, _]) [2, 3] (hs_upnd rfl) rfl) (ci := 2) (q0 := 0) rfl rfl) rfl rfl hl.1 rfl (lv_room (Nat.le_of_ble_eq_true rfl)) dX7_read_143 ⟨Nat.le_of_ble_eq_true rfl, Nat.le_of_ble_eq_true rfl⟩) hP hD hS hA [true, true, false, false, true, true, true, true, true, true, true, true, true, true, true, true, true, true] [_, _, _, _, _, _, _, _, _, _, _, _, _, _, _, _] [_, _] rfl [0, 1] rfl [0, 1] (fun u_28 => [_, _]) (fun _ => rfl) (hs_upnd rfl) [true, true, false, false, true, true, true, true, true, true, true, true, true, true, true, true, true, true] (fun u_28 => [_, _, _, _, _, _, _, _, _, _, _, _, _, _, _, _, _, _]) (fun _ => rfl) (fun r_26 u_28 H locs hw_27 hP hD hS => ?_)
                    refine hs_topi (aTs (s_z 0) (s_r 0) (f + (nI (2 * x2)))) hw_27 ?_
                    refine lv_aload hx hb dX7_read_146 (lv_at hl 3 rfl) ?_
                    refine lv_iload_n hx hb dX7_read_148 rfl (lv_at hl 7 rfl) ?_
                    refine lv_iconst (v := 2) hx hb dX7_read_149 hki_2 ?_
                    refine lv_iload hx hb dX7_read_150 (lv_at hl 0 rfl) ?_
                    refine lv_imul hx hb dX7_read_152 ?_
                    refine hs_topi (nI (2 * x2)) (pk_mul (2) (x2)) ?_
                    refine lv_iadd hx hb dX7_read_153 ?_
                    refine lv_iconst (v := 1) hx hb dX7_read_154 hki_1 ?_
                    refine lv_iadd hx hb dX7_read_155 ?_
                    refine hs_ciM (va_runV (As := [.int ((f + (nI (2 * x2))) + 1)]) (rest := [.int (aTs (s_z 0) (s_r 0) (f + (nI (2 * x2)))), .ref h]) ⟨hx, hb, hml, hown, hts⟩ (gf_at l D k _ sh0 (s_row 0) (s_la 0) (s_z 0) ((f + (nI (2 * x2))) + 1) (s_r 0) (by omega)) (cwV 1 hts gX7_read_X3_at rfl rfl rfl ⟨rfl, hq_X3_at⟩ ⟨Nat.le_of_ble_eq_true rfl, Nat.le_of_ble_eq_true rfl⟩) (hs_preV hK hN (hs_subP (w := [_, _]) hP [2, 3] rfl) (hD.sub (ws' := [_, _]) [2, 3] (hs_upnd rfl) rfl) (ci := 2) (q0 := 0) rfl rfl) rfl rfl hl.1 rfl (lv_room (Nat.le_of_ble_eq_true rfl)) dX7_read_156 ⟨Nat.le_of_ble_eq_true rfl, Nat.le_of_ble_eq_true rfl⟩) hP hD hS hA [true, true, false, false, true, true, true, true, true, true, true, true, true, true, true, true, true, true] [_, _, _, _, _, _, _, _, _, _, _, _, _, _, _, _] [_, _] rfl [0, 1] rfl [0, 1] (fun u_31 => [_, _]) (fun _ => rfl) (hs_upnd rfl) [true, true, false, false, true, true, true, true, true, true, true, true, true, true, true, true, true, true] (fun u_31 => [_, _, _, _, _, _, _, _, _, _, _, _, _, _, _, _, _, _]) (fun _ => rfl) (fun r_29 u_31 H locs hw_30 hP hD hS => ?_)
                    refine hs_topi (aTs (s_z 0) (s_r 0) ((f + (nI (2 * x2))) + 1)) hw_30 ?_
                    refine hs_ciM (va_runV (As := [.int (aTs (s_z 0) (s_r 0) (f + (nI (2 * x2)))), .int (aTs (s_z 0) (s_r 0) ((f + (nI (2 * x2))) + 1))]) (rest := []) ⟨hx, hb, hml, hown, hts⟩ (gpf_weigh l D k _ h h_now h_trial h_images h_imageThere h_teller h_ranks h_court h_sheets h_lf h_lt n_a n_N n_J (fun j => ([wf, n_F 1, n_F 2, n_F 3, n_F 4, n_F 5, n_F 6] : List (Nat → Int32)).getD j hsz) (aTs (s_z 0) (s_r 0) (f + (nI (2 * x2)))) (aTs (s_z 0) (s_r 0) ((f + (nI (2 * x2))) + 1)) hNn ⟨hF.1, hF.2⟩ h2) (cwV 2 hts gX7_read_X7_weigh rfl rfl rfl ⟨rfl, hq_X7_weigh⟩ ⟨Nat.le_of_ble_eq_true rfl, Nat.le_of_ble_eq_true rfl⟩) (hs_preV hK hN (hs_subP (w := [_, _, _, _, _, _, _, _, _]) hP [0, 10, 11, 12, 13, 14, 15, 16, 17] rfl) (hD.sub (ws' := [_, _, _, _, _, _, _, _, _]) [0, 10, 11, 12, 13, 14, 15, 16, 17] (hs_upnd rfl) rfl) (ci := 6) (q0 := 0) rfl rfl) rfl rfl hl.1 rfl (lv_room (Nat.le_of_ble_eq_true rfl)) dX7_read_159 ⟨Nat.le_of_ble_eq_true rfl, Nat.le_of_ble_eq_true rfl⟩) hP hD hS hA [false, true, true, true, true, true, true, true, true, true, false, false, false, false, false, false, false, false] [_, _, _, _, _, _, _, _, _] [_, _, _, _, _, _, _, _, _] rfl [0, 1, 2, 3, 4, 5, 6, 7, 8] rfl [0, 1, 2, 3, 4, 5, 6, 7, 8] (fun u_34 => [_, _, _, _, _, _, _, _, _]) (fun _ => rfl) (hs_upnd rfl) [false, true, true, true, true, true, true, true, true, true, false, false, false, false, false, false, false, false] (fun u_34 => [_, _, _, _, _, _, _, _, _, _, _, _, _, _, _, _, _, _]) (fun _ => rfl) (fun r_32 u_34 H locs hw_33 hP hD hS => ?_)
                    have hw_33 : cWg (n_N 0) ((fun j => ([wf, n_F 1, n_F 2, n_F 3, n_F 4, n_F 5, n_F 6] : List (Nat → Int32)).getD j hsz) 0) (aTs (s_z 0) (s_r 0) (f + (nI (2 * x2)))) (aTs (s_z 0) (s_r 0) ((f + (nI (2 * x2))) + 1)) r_32 u_34 := hw_33
                    refine lv_pop hx hb dX7_read_162 rfl ?_
                    refine lv_iinc (v := nI (x2 + 1)) (lv' := [(8, .int (nI (x2 + 1))), (7, .int (nI wh)), (6, .int fo), (5, .ref sh0), (0, .ref h), (1, .int 0), (2, .int v), (3, .int f), (4, .int (nI nn))]) hx hb dX7_read_163 hl (k := 0) rfl (nI_add (x2) 1) (Nat.le_of_ble_eq_true rfl) rfl (fun ls hl => ?_)
                    refine lv_goto (tgt := 127) hx hb dX7_read_166 rfl ?_
                    exact ih127 (x2 + 1, u_34) (by (try dsimp only); exact ⟨by omega, (by rw [cWg_ok hw_33 (hok9 x2 (by omega)).2, hI.2]; rfl)⟩) (by (try dsimp only); omega) _ _ _ hP hD hS (lv_sub hl [0, 1, 2, 3, 4, 5, 6, 7, 8] rfl)
                · (try dsimp only); exact ⟨Nat.zero_le _, rfl⟩
              · refine lv_aload hx hb dX7_read_56 (lv_at hl 3 rfl) ?_
                refine lv_iload_n hx hb dX7_read_58 rfl (lv_at hl 6 rfl) ?_
                refine lv_iload_n hx hb dX7_read_59 rfl (lv_at hl 7 rfl) ?_
                refine lv_iconst (v := 2) hx hb dX7_read_60 hki_2 ?_
                refine lv_iload hx hb dX7_read_61 (lv_at hl 0 rfl) ?_
                refine lv_imul hx hb dX7_read_63 ?_
                refine hs_topi (nI (2 * x1)) (pk_mul (2) (x1)) ?_
                refine lv_iadd hx hb dX7_read_64 ?_
                refine hs_ciM (va_runV (As := [.int v, .int (f + (nI (2 * x1)))]) (rest := []) ⟨hx, hb, hml, hown, hts⟩ (gf_faultOfTwo l D k _ sh0 (s_row 0) (s_la 0) (s_z 0) v (f + (nI (2 * x1))) (by omega)) (cwV 2 hts gX7_read_X3_faultOfTwo rfl rfl rfl ⟨rfl, hq_X3_faultOfTwo⟩ ⟨Nat.le_of_ble_eq_true rfl, Nat.le_of_ble_eq_true rfl⟩) (hs_preV hK hN (hs_subP (w := [_]) hP [2] rfl) (hD.sub (ws' := [_]) [2] (hs_upnd rfl) rfl) (ci := 2) (q0 := 0) rfl rfl) rfl rfl hl.1 rfl (lv_room (Nat.le_of_ble_eq_true rfl)) dX7_read_65 ⟨Nat.le_of_ble_eq_true rfl, Nat.le_of_ble_eq_true rfl⟩) hP hD hS hA [true, true, false, true, true, true, true, true, true, true, true, true, true, true, true, true, true, true] [_, _, _, _, _, _, _, _, _, _, _, _, _, _, _, _, _] [_] rfl [0] rfl [0] (fun u_37 => [_]) (fun _ => rfl) (hs_upnd rfl) [true, true, false, true, true, true, true, true, true, true, true, true, true, true, true, true, true, true] (fun u_37 => [_, _, _, _, _, _, _, _, _, _, _, _, _, _, _, _, _, _]) (fun _ => rfl) (fun r_35 u_37 H locs hw_36 hP hD hS => ?_)
                refine hs_topi (fTw (s_la 0) (s_z 0) v (f + (nI (2 * x1)))) hw_36 ?_
                refine lv_istore (lv' := [(6, .int (fTw (s_la 0) (s_z 0) v (f + (nI (2 * x1))))), (8, .int (nI x1)), (7, .int (nI wh)), (5, .ref sh0), (0, .ref h), (1, .int 0), (2, .int v), (3, .int f), (4, .int (nI nn))]) hx hb dX7_read_68 hl (Nat.le_of_ble_eq_true rfl) rfl (fun ls hl => ?_)
                refine lv_iload hx hb dX7_read_70 (lv_at hl 0 rfl) ?_
                refine lv_if_ne (tgt := 118) hx hb dX7_read_72 rfl (fun c_38 => ?_) (fun c_38 => ?_)
                · refine lv_iinc (v := nI (x1 + 1)) (lv' := [(8, .int (nI (x1 + 1))), (6, .int (fTw (s_la 0) (s_z 0) v (f + (nI (2 * x1))))), (7, .int (nI wh)), (5, .ref sh0), (0, .ref h), (1, .int 0), (2, .int v), (3, .int f), (4, .int (nI nn))]) hx hb dX7_read_118 hl (k := 1) rfl (nI_add (x1) 1) (Nat.le_of_ble_eq_true rfl) rfl (fun ls hl => ?_)
                  refine lv_goto (tgt := 44) hx hb dX7_read_121 rfl ?_
                  exact ih44 (fTw (s_la 0) (s_z 0) v (f + (nI (2 * x1))), wh, x1 + 1) (by (try dsimp only); exact ⟨by omega, by omega, fun z9 => absurd z9 c_38, fun _ => ⟨by have h9 := (hI.2.2.1 c_24).1; omega, fun j hj => (hI.2.2.1 c_24).2 j (by have h9 := (hI.2.2.1 c_24).1; omega), by rw [(hI.2.2.1 c_24).1]; rfl⟩⟩) (by (try dsimp only); omega) _ _ _ hP hD hS (lv_sub hl [0, 2, 1, 3, 4, 5, 6, 7, 8] rfl)
                · refine lv_aload_n hx hb dX7_read_75 rfl (lv_at hl 4 rfl) ?_
                  refine va_get (D := D) (ci := 6) (v := .ref h_now) (C := RX7) (T := TX7) (N := 10) hx hb hts hiX7 hown hK hP 0 rfl rfl 0 (Nat.le_of_ble_eq_true rfl) fl10 (fun _ h9 => h9) rfl dX7_read_76 ?_
                  refine lv_aload hx hb dX7_read_79 (lv_at hl 3 rfl) ?_
                  refine lv_iload_n hx hb dX7_read_81 rfl (lv_at hl 7 rfl) ?_
                  refine lv_iconst (v := 2) hx hb dX7_read_82 hki_2 ?_
                  refine lv_iload hx hb dX7_read_83 (lv_at hl 1 rfl) ?_
                  refine lv_imul hx hb dX7_read_85 ?_
                  refine hs_topi (nI (2 * x1)) (pk_mul (2) (x1)) ?_
                  refine lv_iadd hx hb dX7_read_86 ?_
                  refine hs_ciM (va_runV (As := [.int (f + (nI (2 * x1)))]) (rest := [.ref h_now]) ⟨hx, hb, hml, hown, hts⟩ (gf_at l D k _ sh0 (s_row 0) (s_la 0) (s_z 0) (f + (nI (2 * x1))) (s_r 0) (by omega)) (cwV 1 hts gX7_read_X3_at rfl rfl rfl ⟨rfl, hq_X3_at⟩ ⟨Nat.le_of_ble_eq_true rfl, Nat.le_of_ble_eq_true rfl⟩) (hs_preV hK hN (hs_subP (w := [_, _]) hP [2, 3] rfl) (hD.sub (ws' := [_, _]) [2, 3] (hs_upnd rfl) rfl) (ci := 2) (q0 := 0) rfl rfl) rfl rfl hl.1 rfl (lv_room (Nat.le_of_ble_eq_true rfl)) dX7_read_87 ⟨Nat.le_of_ble_eq_true rfl, Nat.le_of_ble_eq_true rfl⟩) hP hD hS hA [true, true, false, false, true, true, true, true, true, true, true, true, true, true, true, true, true, true] [_, _, _, _, _, _, _, _, _, _, _, _, _, _, _, _] [_, _] rfl [0, 1] rfl [0, 1] (fun u_41 => [_, _]) (fun _ => rfl) (hs_upnd rfl) [true, true, false, false, true, true, true, true, true, true, true, true, true, true, true, true, true, true] (fun u_41 => [_, _, _, _, _, _, _, _, _, _, _, _, _, _, _, _, _, _]) (fun _ => rfl) (fun r_39 u_41 H locs hw_40 hP hD hS => ?_)
                  refine hs_topi (aTs (s_z 0) (s_r 0) (f + (nI (2 * x1)))) hw_40 ?_
                  refine lv_aload hx hb dX7_read_90 (lv_at hl 3 rfl) ?_
                  refine lv_iload_n hx hb dX7_read_92 rfl (lv_at hl 7 rfl) ?_
                  refine lv_iconst (v := 2) hx hb dX7_read_93 hki_2 ?_
                  refine lv_iload hx hb dX7_read_94 (lv_at hl 1 rfl) ?_
                  refine lv_imul hx hb dX7_read_96 ?_
                  refine hs_topi (nI (2 * x1)) (pk_mul (2) (x1)) ?_
                  refine lv_iadd hx hb dX7_read_97 ?_
                  refine lv_iconst (v := 1) hx hb dX7_read_98 hki_1 ?_
                  refine lv_iadd hx hb dX7_read_99 ?_
                  refine hs_ciM (va_runV (As := [.int ((f + (nI (2 * x1))) + 1)]) (rest := [.int (aTs (s_z 0) (s_r 0) (f + (nI (2 * x1)))), .ref h_now]) ⟨hx, hb, hml, hown, hts⟩ (gf_at l D k _ sh0 (s_row 0) (s_la 0) (s_z 0) ((f + (nI (2 * x1))) + 1) (s_r 0) (by omega)) (cwV 1 hts gX7_read_X3_at rfl rfl rfl ⟨rfl, hq_X3_at⟩ ⟨Nat.le_of_ble_eq_true rfl, Nat.le_of_ble_eq_true rfl⟩) (hs_preV hK hN (hs_subP (w := [_, _]) hP [2, 3] rfl) (hD.sub (ws' := [_, _]) [2, 3] (hs_upnd rfl) rfl) (ci := 2) (q0 := 0) rfl rfl) rfl rfl hl.1 rfl (lv_room (Nat.le_of_ble_eq_true rfl)) dX7_read_100 ⟨Nat.le_of_ble_eq_true rfl, Nat.le_of_ble_eq_true rfl⟩) hP hD hS hA [true, true, false, false, true, true, true, true, true, true, true, true, true, true, true, true, true, true] [_, _, _, _, _, _, _, _, _, _, _, _, _, _, _, _] [_, _] rfl [0, 1] rfl [0, 1] (fun u_44 => [_, _]) (fun _ => rfl) (hs_upnd rfl) [true, true, false, false, true, true, true, true, true, true, true, true, true, true, true, true, true, true] (fun u_44 => [_, _, _, _, _, _, _, _, _, _, _, _, _, _, _, _, _, _]) (fun _ => rfl) (fun r_42 u_44 H locs hw_43 hP hD hS => ?_)
                  refine hs_topi (aTs (s_z 0) (s_r 0) ((f + (nI (2 * x1))) + 1)) hw_43 ?_
                  refine hs_ciM (va_runV (As := [.int (aTs (s_z 0) (s_r 0) (f + (nI (2 * x1)))), .int (aTs (s_z 0) (s_r 0) ((f + (nI (2 * x1))) + 1))]) (rest := []) ⟨hx, hb, hml, hown, hts⟩ (g_canWeigh l D k _ h_now n_a n_N n_J (aTs (s_z 0) (s_r 0) (f + (nI (2 * x1)))) (aTs (s_z 0) (s_r 0) ((f + (nI (2 * x1))) + 1)) (by first | assumption | exact ⟨by first | omega | (dsimp; omega), by first | omega | (dsimp; omega), ⟨by first | omega | (dsimp; omega), by first | omega | (dsimp; omega)⟩, by first | omega | (dsimp; omega), by first | omega | (dsimp; omega)⟩)) (cwV 2 hts gX7_read_X6_canWeigh rfl rfl rfl ⟨rfl, hq_X6_canWeigh⟩ ⟨Nat.le_of_ble_eq_true rfl, Nat.le_of_ble_eq_true rfl⟩) (hs_preV hK hN (hs_subP (w := [_]) hP [10] rfl) (hD.sub (ws' := [_]) [10] (hs_upnd rfl) rfl) (ci := 5) (q0 := 0) rfl rfl) rfl rfl hl.1 rfl (lv_room (Nat.le_of_ble_eq_true rfl)) dX7_read_103 ⟨Nat.le_of_ble_eq_true rfl, Nat.le_of_ble_eq_true rfl⟩) hP hD hS hA [true, true, true, true, true, true, true, true, true, true, false, true, true, true, true, true, true, true] [_, _, _, _, _, _, _, _, _, _, _, _, _, _, _, _, _] [_] rfl [0] rfl [0] (fun u_47 => [_]) (fun _ => rfl) (hs_upnd rfl) [true, true, true, true, true, true, true, true, true, true, false, true, true, true, true, true, true, true] (fun u_47 => [_, _, _, _, _, _, _, _, _, _, _, _, _, _, _, _, _, _]) (fun _ => rfl) (fun r_45 u_47 H locs hw_46 hP hD hS => ?_)
                  refine hs_topi (hsb (hslt (aTs (s_z 0) (s_r 0) (f + (nI (2 * x1)))) (n_N 0) && hsin (aTs (s_z 0) (s_r 0) ((f + (nI (2 * x1))) + 1)) 0 9)) hw_46 ?_
                  refine lv_if_ne (tgt := 115) hx hb dX7_read_106 rfl (fun c_48 => ?_) (fun c_48 => ?_)
                  · refine lv_iinc (v := nI (wh + 1)) (lv' := [(7, .int (nI (wh + 1))), (6, .int (fTw (s_la 0) (s_z 0) v (f + (nI (2 * x1))))), (8, .int (nI x1)), (5, .ref sh0), (0, .ref h), (1, .int 0), (2, .int v), (3, .int f), (4, .int (nI nn))]) hx hb dX7_read_115 hl (k := 2) rfl (nI_add (wh) 1) (Nat.le_of_ble_eq_true rfl) rfl (fun ls hl => ?_)
                    refine lv_iinc (v := nI (x1 + 1)) (lv' := [(8, .int (nI (x1 + 1))), (7, .int (nI (wh + 1))), (6, .int (fTw (s_la 0) (s_z 0) v (f + (nI (2 * x1))))), (5, .ref sh0), (0, .ref h), (1, .int 0), (2, .int v), (3, .int f), (4, .int (nI nn))]) hx hb dX7_read_118 hl (k := 2) rfl (nI_add (x1) 1) (Nat.le_of_ble_eq_true rfl) rfl (fun ls hl => ?_)
                    refine lv_goto (tgt := 44) hx hb dX7_read_121 rfl ?_
                    exact ih44 (fTw (s_la 0) (s_z 0) v (f + (nI (2 * x1))), wh + 1, x1 + 1) (by (try dsimp only); exact ⟨by omega, by omega, fun _ => ⟨by have h9 := (hI.2.2.1 c_24).1; omega, fun j hj => if e9 : j = x1 then (by subst e9; exact ⟨c_38, hs_nb c_48⟩) else (hI.2.2.1 c_24).2 j (by omega)⟩, fun z9 => absurd c_38 z9⟩) (by (try dsimp only); omega) _ _ _ hP hD hS (lv_sub hl [0, 1, 2, 3, 4, 5, 6, 7, 8] rfl)
                  · refine lv_bipush (v := (-20)) hx hb dX7_read_109 hkb_m20 ?_
                    refine lv_iload hx hb dX7_read_111 (lv_at hl 1 rfl) ?_
                    refine lv_isub hx hb dX7_read_113 ?_
                    exact hs_iret hx hb hr hlocks hK hP hD hS (n_F 0, h_lt) [0, 1, 2, 3, 4, 5, 6, 7, 8, 9, 10, 11, 12, 13, 14, 15, 16, 17] rfl (hs_upnd rfl) dX7_read_114 (Or.inr ⟨0, nn, by decide, rfl, by omega, rfl, hs_nb c_8, x1, by omega, (hI.2.2.1 c_24).2, Or.inl ⟨by omega, c_38, hs_n0 c_48, rfl, rfl⟩⟩)
          · (try dsimp only); exact ⟨Nat.zero_le _, Nat.le_refl _, fun _ => ⟨rfl, fun j hj => absurd hj (Nat.not_lt_zero j)⟩, fun z9 => absurd rfl z9⟩
        · refine lv_iconst (v := (-1)) hx hb dX7_read_25 hki_m1 ?_
          exact hs_iret hx hb hr hlocks hK hP hD hS (n_F 0, h_lt) [0, 1, 2, 3, 4, 5, 6, 7, 8, 9, 10, 11, 12, 13, 14, 15, 16, 17] rfl (hs_upnd rfl) dX7_read_26 (Or.inl ⟨hs_rbad (Or.inr (Or.inr (hs_n0 c_12))), rfl, rfl⟩)
    · refine lv_iload_n hx hb dX7_read_7 rfl (lv_at hl 2 rfl) ?_
      refine hs_pi (va_runS (As := [.int v]) (rest := []) ⟨hx, hb, hml, hown, hts⟩ (g_isLane l D k _ v) (va_cwS 1 hts gX7_read_X3_isLane rfl rfl rfl hq_X3_isLane ⟨Nat.le_of_ble_eq_true rfl, Nat.le_of_ble_eq_true rfl⟩) (hs_preS hK hN (hs_subP (w := []) hP [] rfl) (hD.sub (ws' := []) [] rfl rfl)) rfl rfl hl.1 rfl (lv_room (Nat.le_of_ble_eq_true rfl)) dX7_read_8 ⟨Nat.le_of_ble_eq_true rfl, Nat.le_of_ble_eq_true rfl⟩) hP hD hS hA (fun r_49 u_51 H locs hw_50 hP hS => ?_)
      refine hs_topi (hsb (hsin v 0 2)) hw_50 ?_
      refine lv_if_eq (tgt := 25) hx hb dX7_read_11 rfl (fun c_52 => ?_) (fun c_52 => ?_)
      · refine lv_iconst (v := (-1)) hx hb dX7_read_25 hki_m1 ?_
        exact hs_iret hx hb hr hlocks hK hP hD hS (n_F 0, h_lt) [0, 1, 2, 3, 4, 5, 6, 7, 8, 9, 10, 11, 12, 13, 14, 15, 16, 17] rfl (hs_upnd rfl) dX7_read_26 (Or.inl ⟨hs_rbad (Or.inr (Or.inl (hs_n0 c_52))), rfl, rfl⟩)
      · refine lv_iload hx hb dX7_read_14 (lv_at hl 4 rfl) ?_
        refine lv_iconst (v := 0) hx hb dX7_read_16 hki_0 ?_
        refine lv_bipush (v := 20) hx hb dX7_read_17 hkb_20 ?_
        refine hs_pi (va_runS (As := [.int n, .int 0, .int 20]) (rest := []) ⟨hx, hb, hml, hown, hts⟩ (g_within l D k _ n 0 20) (va_cwS 3 hts gX7_read_X7_within rfl rfl rfl hq_X7_within ⟨Nat.le_of_ble_eq_true rfl, Nat.le_of_ble_eq_true rfl⟩) (hs_preS hK hN (hs_subP (w := []) hP [] rfl) (hD.sub (ws' := []) [] rfl rfl)) rfl rfl hl.1 rfl (lv_room (Nat.le_of_ble_eq_true rfl)) dX7_read_19 ⟨Nat.le_of_ble_eq_true rfl, Nat.le_of_ble_eq_true rfl⟩) hP hD hS hA (fun r_53 u_55 H locs hw_54 hP hS => ?_)
        refine hs_topi (hsb (hsin n 0 20)) hw_54 ?_
        refine lv_if_ne (tgt := 27) hx hb dX7_read_22 rfl (fun c_56 => ?_) (fun c_56 => ?_)
        · obtain ⟨nn, hnn, hnnb, rfl⟩ := hs_rng (lo := 0) (hi := 20) (by omega) (by omega) (hs_nb c_56)
          refine lv_aload_n hx hb dX7_read_27 rfl (lv_at hl 0 rfl) ?_
          refine va_get (D := D) (ci := 6) (v := .ref h_sheets) (C := RX7) (T := TX7) (N := 10) hx hb hts hiX7 hown hK hP 0 rfl rfl 7 (Nat.le_of_ble_eq_true rfl) fl50 (fun _ h9 => h9) rfl dX7_read_28 ?_
          refine lv_iload_n hx hb dX7_read_31 rfl (lv_at hl 1 rfl) ?_
          refine va_aldq hx hb hK hP 1 3 rfl rfl (hs_in (by decide)) dX7_read_32 ?_
          refine W.eq (g2 := F0 m 33 ls (.ref sh1 :: [])) rfl ?_
          refine lv_astore (lv' := [(5, .ref sh1), (0, .ref h), (1, .int 1), (2, .int v), (3, .int f), (4, .int (nI nn))]) hx hb dX7_read_33 hl (Nat.le_of_ble_eq_true rfl) rfl (fun ls hl => ?_)
          refine lv_iconst (v := 0) hx hb dX7_read_35 hki_0 ?_
          refine lv_istore (lv' := [(6, .int 0), (5, .ref sh1), (0, .ref h), (1, .int 1), (2, .int v), (3, .int f), (4, .int (nI nn))]) hx hb dX7_read_36 hl (Nat.le_of_ble_eq_true rfl) rfl (fun ls hl => ?_)
          refine lv_iconst (v := 0) hx hb dX7_read_38 hki_0 ?_
          refine lv_istore (lv' := [(7, .int 0), (6, .int 0), (5, .ref sh1), (0, .ref h), (1, .int 1), (2, .int v), (3, .int f), (4, .int (nI nn))]) hx hb dX7_read_39 hl (Nat.le_of_ble_eq_true rfl) rfl (fun ls hl => ?_)
          refine lv_iconst (v := 0) hx hb dX7_read_41 hki_0 ?_
          refine lv_istore (lv' := [(8, .int 0), (7, .int 0), (6, .int 0), (5, .ref sh1), (0, .ref h), (1, .int 1), (2, .int v), (3, .int f), (4, .int (nI nn))]) hx hb dX7_read_42 hl (Nat.le_of_ble_eq_true rfl) rfl (fun ls hl => ?_)
          refine hs_while (σ := Int32 × Nat × Nat) (fun x => x.2.2 ≤ nn ∧ x.2.1 ≤ x.2.2 ∧ (x.1 = 0 → (x.2.1 = x.2.2 ∧ ∀ j, j < x.2.2 → okR (n_N 0) (s_la 1) (s_z 1) (s_r 1) v f j)) ∧ (¬ x.1 = 0 → (x.2.1 + 1 = x.2.2 ∧ (∀ j, j < x.2.1 → okR (n_N 0) (s_la 1) (s_z 1) (s_r 1) v f j) ∧ x.1 = fTw (s_la 1) (s_z 1) v (pRd f x.2.1)))) (fun x => nn - x.2.2) (fun x => [oq6 h h_now h_trial h_images h_imageThere h_teller h_ranks h_court h_sheets h_lf h_lt, (h_sheets, .inl (k 3, 4, .inr (.inr (.inr (.inr (va_up (va_up (va_up (va_up (fun _ => none) 0 (some sh0)) 1 (some sh1)) 2 (some sh2)) 3 (some sh3))))))), oq2 sh0 (s_row 0) (s_la 0) (nI (s_z 0)), oqI k (s_row 0) 40 (s_r 0), oq2 sh1 (s_row 1) (s_la 1) (nI (s_z 1)), oqI k (s_row 1) 40 (s_r 1), oq2 sh2 (s_row 2) (s_la 2) (nI (s_z 2)), oqI k (s_row 2) 40 (s_r 2), oq2 sh3 (s_row 3) (s_la 3) (nI (s_z 3)), oqI k (s_row 3) 40 (s_r 3), oqT h_now n_a n_N n_J, oqF0 k n_a n_F, oqF1 k n_a n_F, oqF2 k n_a n_F, oqF3 k n_a n_F, oqF4 k n_a n_F, oqF5 k n_a n_F, oqF6 k n_a n_F]) (fun x => [(8, .int (nI (x.2.2))), (7, .int (nI (x.2.1))), (6, .int (x.1)), (5, .ref sh1), (0, .ref h), (1, .int 1), (2, .int v), (3, .int f), (4, .int (nI nn))]) ?_ (0, 0, 0) ?_ hP hD hS hl
          · intro x hI ih44 H locs ls hP hD hS hl
            obtain ⟨fo, wh, x1⟩ := x
            try dsimp only at hI
            have hP : va_P D vwCl [_, _, _, _, _, _, _, _, _, _, _, _, _, _, _, _, _, _] H := hP
            have hD : va_D A [_, _, _, _, _, _, _, _, _, _, _, _, _, _, _, _, _, _] := hD
            have hl : lv_has ls 9 [(8, .int (nI x1)), (7, .int (nI wh)), (6, .int fo), (5, .ref sh1), (0, .ref h), (1, .int 1), (2, .int v), (3, .int f), (4, .int (nI nn))] := hl
            refine lv_iload hx hb dX7_read_44 (lv_at hl 0 rfl) ?_
            refine lv_iload hx hb dX7_read_46 (lv_at hl 8 rfl) ?_
            refine lv_icmp_ge (tgt := 124) hx hb dX7_read_48 rfl (fun c_57 => ?_) (fun c_57 => ?_)
            · have nc_57 : nn ≤ x1 := (nI_leI (a := nn) (b := x1) (by omega) (by omega)).mp c_57
              have hI44 := hI
              have hok9 : ∀ j, j < wh → okR (n_N 0) (s_la 1) (s_z 1) (s_r 1) v f j := fun j hj => if e9 : fo = 0 then (hI.2.2.1 e9).2 j (by have h9 := (hI.2.2.1 e9).1; omega) else (hI.2.2.2 e9).2.1 j hj
              refine lv_iconst (v := 0) hx hb dX7_read_124 hki_0 ?_
              refine lv_istore (lv' := [(8, .int 0), (7, .int (nI wh)), (6, .int fo), (5, .ref sh1), (0, .ref h), (1, .int 1), (2, .int v), (3, .int f), (4, .int (nI nn))]) hx hb dX7_read_125 hl (Nat.le_of_ble_eq_true rfl) rfl (fun ls hl => ?_)
              refine hs_while (σ := Nat × (Nat → Int32)) (fun x => x.1 ≤ wh ∧ x.2 = wtR (s_z 1) (s_r 1) f (n_F 0) x.1) (fun x => wh - x.1) (fun x => [oq6 h h_now h_trial h_images h_imageThere h_teller h_ranks h_court h_sheets h_lf h_lt, (h_sheets, .inl (k 3, 4, .inr (.inr (.inr (.inr (va_up (va_up (va_up (va_up (fun _ => none) 0 (some sh0)) 1 (some sh1)) 2 (some sh2)) 3 (some sh3))))))), oq2 sh0 (s_row 0) (s_la 0) (nI (s_z 0)), oqI k (s_row 0) 40 (s_r 0), oq2 sh1 (s_row 1) (s_la 1) (nI (s_z 1)), oqI k (s_row 1) 40 (s_r 1), oq2 sh2 (s_row 2) (s_la 2) (nI (s_z 2)), oqI k (s_row 2) 40 (s_r 2), oq2 sh3 (s_row 3) (s_la 3) (nI (s_z 3)), oqI k (s_row 3) 40 (s_r 3), oqT h_now n_a n_N n_J, oqI k (n_a 0) 8 ((x.2)), oqF1 k n_a n_F, oqF2 k n_a n_F, oqF3 k n_a n_F, oqF4 k n_a n_F, oqF5 k n_a n_F, oqF6 k n_a n_F]) (fun x => [(8, .int (nI (x.1))), (7, .int (nI wh)), (6, .int fo), (5, .ref sh1), (0, .ref h), (1, .int 1), (2, .int v), (3, .int f), (4, .int (nI nn))]) ?_ (0, n_F 0) ?_ hP hD hS hl
              · intro x hI ih127 H locs ls hP hD hS hl
                obtain ⟨x2, wf⟩ := x
                try dsimp only at hI
                have hP : va_P D vwCl [_, _, _, _, _, _, _, _, _, _, _, oqI k (n_a 0) 8 (wf), _, _, _, _, _, _] H := hP
                have hD : va_D A [_, _, _, _, _, _, _, _, _, _, _, oqI k (n_a 0) 8 (wf), _, _, _, _, _, _] := hD
                have hl : lv_has ls 9 [(8, .int (nI x2)), (7, .int (nI wh)), (6, .int fo), (5, .ref sh1), (0, .ref h), (1, .int 1), (2, .int v), (3, .int f), (4, .int (nI nn))] := hl
                refine lv_iload hx hb dX7_read_127 (lv_at hl 0 rfl) ?_
                refine lv_iload hx hb dX7_read_129 (lv_at hl 1 rfl) ?_
                refine lv_icmp_ge (tgt := 169) hx hb dX7_read_131 rfl (fun c_58 => ?_) (fun c_58 => ?_)
                · have nc_58 : wh ≤ x2 := (nI_leI (a := wh) (b := x2) (by omega) (by omega)).mp c_58
                  refine lv_aload_n hx hb dX7_read_169 rfl (lv_at hl 4 rfl) ?_
                  refine lv_iload hx hb dX7_read_170 (lv_at hl 2 rfl) ?_
                  refine va_put (D := D) (ci := 6) (v := .int fo) (ty := .int) (C := RX7) (T := TX7) (N := 10) hx hb hts hiX7 tyX7 tyX7_ok nmX7 hown hK hP hD hS 0 rfl rfl 9 (Nat.le_of_ble_eq_true rfl) fl283 (fun _ h9 => h9) rfl (by decide +kernel) rfl rfl (Nat.le_of_ble_eq_true rfl) dX7_read_172 (fun H locs hP hD hS => ?_)
                  have hP : va_P D vwCl [oq6 h h_now h_trial h_images h_imageThere h_teller h_ranks h_court h_sheets h_lf fo, _, _, _, _, _, _, _, _, _, _, _, _, _, _, _, _, _] H := hP
                  have hD : va_D A [oq6 h h_now h_trial h_images h_imageThere h_teller h_ranks h_court h_sheets h_lf fo, _, _, _, _, _, _, _, _, _, _, _, _, _, _, _, _, _] := hD
                  refine lv_iload hx hb dX7_read_175 (lv_at hl 1 rfl) ?_
                  exact hs_iret hx hb hr hlocks hK hP hD hS (wf, fo) [0, 1, 2, 3, 4, 5, 6, 7, 8, 9, 10, 11, 12, 13, 14, 15, 16, 17] rfl (hs_upnd rfl) dX7_read_177 (Or.inr ⟨1, nn, by decide, rfl, by omega, rfl, hs_nb c_52, (if e9 : fo = 0 then (by have h9 := (hI44.2.2.1 e9).1; have hx9 := hI44.1; have h2 : wh = nn := (by first | omega | exact absurd e9 (by assumption)); exact ⟨wh, by omega, hok9, Or.inr (Or.inl ⟨h2, rfl, by (try dsimp only); rw [hI.2, show x2 = wh by omega, e9]⟩)⟩) else (by have h9 := hI44.2.2.2 e9; have hx9 := hI44.1; exact ⟨wh, by omega, hok9, Or.inr (Or.inr ⟨by omega, by rw [← h9.2.2]; exact e9, rfl, by (try dsimp only); rw [hI.2, show x2 = wh by omega, ← h9.2.2]⟩)⟩))⟩)
                · have nc_58 : ¬ wh ≤ x2 := fun hq9 => c_58 ((nI_leI (a := wh) (b := x2) (by omega) (by omega)).mpr hq9)
                  refine lv_aload_n hx hb dX7_read_134 rfl (lv_at hl 4 rfl) ?_
                  refine lv_aload hx hb dX7_read_135 (lv_at hl 3 rfl) ?_
                  refine lv_iload_n hx hb dX7_read_137 rfl (lv_at hl 7 rfl) ?_
                  refine lv_iconst (v := 2) hx hb dX7_read_138 hki_2 ?_
                  refine lv_iload hx hb dX7_read_139 (lv_at hl 0 rfl) ?_
                  refine lv_imul hx hb dX7_read_141 ?_
                  refine hs_topi (nI (2 * x2)) (pk_mul (2) (x2)) ?_
                  refine lv_iadd hx hb dX7_read_142 ?_
                  refine hs_ciM (va_runV (As := [.int (f + (nI (2 * x2)))]) (rest := [.ref h]) ⟨hx, hb, hml, hown, hts⟩ (gf_at l D k _ sh1 (s_row 1) (s_la 1) (s_z 1) (f + (nI (2 * x2))) (s_r 1) (by omega)) (cwV 1 hts gX7_read_X3_at rfl rfl rfl ⟨rfl, hq_X3_at⟩ ⟨Nat.le_of_ble_eq_true rfl, Nat.le_of_ble_eq_true rfl⟩) (hs_preV hK hN (hs_subP (w := [_, _]) hP [4, 5] rfl) (hD.sub (ws' := [_, _]) [4, 5] (hs_upnd rfl) rfl) (ci := 2) (q0 := 0) rfl rfl) rfl rfl hl.1 rfl (lv_room (Nat.le_of_ble_eq_true rfl)) dX7_read_143 ⟨Nat.le_of_ble_eq_true rfl, Nat.le_of_ble_eq_true rfl⟩) hP hD hS hA [true, true, true, true, false, false, true, true, true, true, true, true, true, true, true, true, true, true] [_, _, _, _, _, _, _, _, _, _, _, _, _, _, _, _] [_, _] rfl [0, 1] rfl [0, 1] (fun u_61 => [_, _]) (fun _ => rfl) (hs_upnd rfl) [true, true, true, true, false, false, true, true, true, true, true, true, true, true, true, true, true, true] (fun u_61 => [_, _, _, _, _, _, _, _, _, _, _, _, _, _, _, _, _, _]) (fun _ => rfl) (fun r_59 u_61 H locs hw_60 hP hD hS => ?_)
                  refine hs_topi (aTs (s_z 1) (s_r 1) (f + (nI (2 * x2)))) hw_60 ?_
                  refine lv_aload hx hb dX7_read_146 (lv_at hl 3 rfl) ?_
                  refine lv_iload_n hx hb dX7_read_148 rfl (lv_at hl 7 rfl) ?_
                  refine lv_iconst (v := 2) hx hb dX7_read_149 hki_2 ?_
                  refine lv_iload hx hb dX7_read_150 (lv_at hl 0 rfl) ?_
                  refine lv_imul hx hb dX7_read_152 ?_
                  refine hs_topi (nI (2 * x2)) (pk_mul (2) (x2)) ?_
                  refine lv_iadd hx hb dX7_read_153 ?_
                  refine lv_iconst (v := 1) hx hb dX7_read_154 hki_1 ?_
                  refine lv_iadd hx hb dX7_read_155 ?_
                  refine hs_ciM (va_runV (As := [.int ((f + (nI (2 * x2))) + 1)]) (rest := [.int (aTs (s_z 1) (s_r 1) (f + (nI (2 * x2)))), .ref h]) ⟨hx, hb, hml, hown, hts⟩ (gf_at l D k _ sh1 (s_row 1) (s_la 1) (s_z 1) ((f + (nI (2 * x2))) + 1) (s_r 1) (by omega)) (cwV 1 hts gX7_read_X3_at rfl rfl rfl ⟨rfl, hq_X3_at⟩ ⟨Nat.le_of_ble_eq_true rfl, Nat.le_of_ble_eq_true rfl⟩) (hs_preV hK hN (hs_subP (w := [_, _]) hP [4, 5] rfl) (hD.sub (ws' := [_, _]) [4, 5] (hs_upnd rfl) rfl) (ci := 2) (q0 := 0) rfl rfl) rfl rfl hl.1 rfl (lv_room (Nat.le_of_ble_eq_true rfl)) dX7_read_156 ⟨Nat.le_of_ble_eq_true rfl, Nat.le_of_ble_eq_true rfl⟩) hP hD hS hA [true, true, true, true, false, false, true, true, true, true, true, true, true, true, true, true, true, true] [_, _, _, _, _, _, _, _, _, _, _, _, _, _, _, _] [_, _] rfl [0, 1] rfl [0, 1] (fun u_64 => [_, _]) (fun _ => rfl) (hs_upnd rfl) [true, true, true, true, false, false, true, true, true, true, true, true, true, true, true, true, true, true] (fun u_64 => [_, _, _, _, _, _, _, _, _, _, _, _, _, _, _, _, _, _]) (fun _ => rfl) (fun r_62 u_64 H locs hw_63 hP hD hS => ?_)
                  refine hs_topi (aTs (s_z 1) (s_r 1) ((f + (nI (2 * x2))) + 1)) hw_63 ?_
                  refine hs_ciM (va_runV (As := [.int (aTs (s_z 1) (s_r 1) (f + (nI (2 * x2)))), .int (aTs (s_z 1) (s_r 1) ((f + (nI (2 * x2))) + 1))]) (rest := []) ⟨hx, hb, hml, hown, hts⟩ (gpf_weigh l D k _ h h_now h_trial h_images h_imageThere h_teller h_ranks h_court h_sheets h_lf h_lt n_a n_N n_J (fun j => ([wf, n_F 1, n_F 2, n_F 3, n_F 4, n_F 5, n_F 6] : List (Nat → Int32)).getD j hsz) (aTs (s_z 1) (s_r 1) (f + (nI (2 * x2)))) (aTs (s_z 1) (s_r 1) ((f + (nI (2 * x2))) + 1)) hNn ⟨hF.1, hF.2⟩ h2) (cwV 2 hts gX7_read_X7_weigh rfl rfl rfl ⟨rfl, hq_X7_weigh⟩ ⟨Nat.le_of_ble_eq_true rfl, Nat.le_of_ble_eq_true rfl⟩) (hs_preV hK hN (hs_subP (w := [_, _, _, _, _, _, _, _, _]) hP [0, 10, 11, 12, 13, 14, 15, 16, 17] rfl) (hD.sub (ws' := [_, _, _, _, _, _, _, _, _]) [0, 10, 11, 12, 13, 14, 15, 16, 17] (hs_upnd rfl) rfl) (ci := 6) (q0 := 0) rfl rfl) rfl rfl hl.1 rfl (lv_room (Nat.le_of_ble_eq_true rfl)) dX7_read_159 ⟨Nat.le_of_ble_eq_true rfl, Nat.le_of_ble_eq_true rfl⟩) hP hD hS hA [false, true, true, true, true, true, true, true, true, true, false, false, false, false, false, false, false, false] [_, _, _, _, _, _, _, _, _] [_, _, _, _, _, _, _, _, _] rfl [0, 1, 2, 3, 4, 5, 6, 7, 8] rfl [0, 1, 2, 3, 4, 5, 6, 7, 8] (fun u_67 => [_, _, _, _, _, _, _, _, _]) (fun _ => rfl) (hs_upnd rfl) [false, true, true, true, true, true, true, true, true, true, false, false, false, false, false, false, false, false] (fun u_67 => [_, _, _, _, _, _, _, _, _, _, _, _, _, _, _, _, _, _]) (fun _ => rfl) (fun r_65 u_67 H locs hw_66 hP hD hS => ?_)
                  have hw_66 : cWg (n_N 0) ((fun j => ([wf, n_F 1, n_F 2, n_F 3, n_F 4, n_F 5, n_F 6] : List (Nat → Int32)).getD j hsz) 0) (aTs (s_z 1) (s_r 1) (f + (nI (2 * x2)))) (aTs (s_z 1) (s_r 1) ((f + (nI (2 * x2))) + 1)) r_65 u_67 := hw_66
                  refine lv_pop hx hb dX7_read_162 rfl ?_
                  refine lv_iinc (v := nI (x2 + 1)) (lv' := [(8, .int (nI (x2 + 1))), (7, .int (nI wh)), (6, .int fo), (5, .ref sh1), (0, .ref h), (1, .int 1), (2, .int v), (3, .int f), (4, .int (nI nn))]) hx hb dX7_read_163 hl (k := 0) rfl (nI_add (x2) 1) (Nat.le_of_ble_eq_true rfl) rfl (fun ls hl => ?_)
                  refine lv_goto (tgt := 127) hx hb dX7_read_166 rfl ?_
                  exact ih127 (x2 + 1, u_67) (by (try dsimp only); exact ⟨by omega, (by rw [cWg_ok hw_66 (hok9 x2 (by omega)).2, hI.2]; rfl)⟩) (by (try dsimp only); omega) _ _ _ hP hD hS (lv_sub hl [0, 1, 2, 3, 4, 5, 6, 7, 8] rfl)
              · (try dsimp only); exact ⟨Nat.zero_le _, rfl⟩
            · have nc_57 : ¬ nn ≤ x1 := fun hq9 => c_57 ((nI_leI (a := nn) (b := x1) (by omega) (by omega)).mpr hq9)
              refine lv_iload hx hb dX7_read_51 (lv_at hl 2 rfl) ?_
              refine lv_if_ne (tgt := 124) hx hb dX7_read_53 rfl (fun c_68 => ?_) (fun c_68 => ?_)
              · have hI44 := hI
                have hok9 : ∀ j, j < wh → okR (n_N 0) (s_la 1) (s_z 1) (s_r 1) v f j := fun j hj => if e9 : fo = 0 then (hI.2.2.1 e9).2 j (by have h9 := (hI.2.2.1 e9).1; omega) else (hI.2.2.2 e9).2.1 j hj
                refine lv_iconst (v := 0) hx hb dX7_read_124 hki_0 ?_
                refine lv_istore (lv' := [(8, .int 0), (7, .int (nI wh)), (6, .int fo), (5, .ref sh1), (0, .ref h), (1, .int 1), (2, .int v), (3, .int f), (4, .int (nI nn))]) hx hb dX7_read_125 hl (Nat.le_of_ble_eq_true rfl) rfl (fun ls hl => ?_)
                refine hs_while (σ := Nat × (Nat → Int32)) (fun x => x.1 ≤ wh ∧ x.2 = wtR (s_z 1) (s_r 1) f (n_F 0) x.1) (fun x => wh - x.1) (fun x => [oq6 h h_now h_trial h_images h_imageThere h_teller h_ranks h_court h_sheets h_lf h_lt, (h_sheets, .inl (k 3, 4, .inr (.inr (.inr (.inr (va_up (va_up (va_up (va_up (fun _ => none) 0 (some sh0)) 1 (some sh1)) 2 (some sh2)) 3 (some sh3))))))), oq2 sh0 (s_row 0) (s_la 0) (nI (s_z 0)), oqI k (s_row 0) 40 (s_r 0), oq2 sh1 (s_row 1) (s_la 1) (nI (s_z 1)), oqI k (s_row 1) 40 (s_r 1), oq2 sh2 (s_row 2) (s_la 2) (nI (s_z 2)), oqI k (s_row 2) 40 (s_r 2), oq2 sh3 (s_row 3) (s_la 3) (nI (s_z 3)), oqI k (s_row 3) 40 (s_r 3), oqT h_now n_a n_N n_J, oqI k (n_a 0) 8 ((x.2)), oqF1 k n_a n_F, oqF2 k n_a n_F, oqF3 k n_a n_F, oqF4 k n_a n_F, oqF5 k n_a n_F, oqF6 k n_a n_F]) (fun x => [(8, .int (nI (x.1))), (7, .int (nI wh)), (6, .int fo), (5, .ref sh1), (0, .ref h), (1, .int 1), (2, .int v), (3, .int f), (4, .int (nI nn))]) ?_ (0, n_F 0) ?_ hP hD hS hl
                · intro x hI ih127 H locs ls hP hD hS hl
                  obtain ⟨x2, wf⟩ := x
                  try dsimp only at hI
                  have hP : va_P D vwCl [_, _, _, _, _, _, _, _, _, _, _, oqI k (n_a 0) 8 (wf), oqF1 k n_a n_F, oqF2 k n_a n_F, oqF3 k n_a n_F, oqF4 k n_a n_F, oqF5 k n_a n_F, oqF6 k n_a n_F] H := hP
                  have hD : va_D A [_, _, _, _, _, _, _, _, _, _, _, oqI k (n_a 0) 8 (wf), oqF1 k n_a n_F, oqF2 k n_a n_F, oqF3 k n_a n_F, oqF4 k n_a n_F, oqF5 k n_a n_F, oqF6 k n_a n_F] := hD
                  have hl : lv_has ls 9 [(8, .int (nI x2)), (7, .int (nI wh)), (6, .int fo), (5, .ref sh1), (0, .ref h), (1, .int 1), (2, .int v), (3, .int f), (4, .int (nI nn))] := hl
                  refine lv_iload hx hb dX7_read_127 (lv_at hl 0 rfl) ?_
                  refine lv_iload hx hb dX7_read_129 (lv_at hl 1 rfl) ?_
                  refine lv_icmp_ge (tgt := 169) hx hb dX7_read_131 rfl (fun c_69 => ?_) (fun c_69 => ?_)
                  · have nc_69 : wh ≤ x2 := (nI_leI (a := wh) (b := x2) (by omega) (by omega)).mp c_69
                    refine lv_aload_n hx hb dX7_read_169 rfl (lv_at hl 4 rfl) ?_
                    refine lv_iload hx hb dX7_read_170 (lv_at hl 2 rfl) ?_
                    refine va_put (D := D) (ci := 6) (v := .int fo) (ty := .int) (C := RX7) (T := TX7) (N := 10) hx hb hts hiX7 tyX7 tyX7_ok nmX7 hown hK hP hD hS 0 rfl rfl 9 (Nat.le_of_ble_eq_true rfl) fl283 (fun _ h9 => h9) rfl (by decide +kernel) rfl rfl (Nat.le_of_ble_eq_true rfl) dX7_read_172 (fun H locs hP hD hS => ?_)
                    have hP : va_P D vwCl [oq6 h h_now h_trial h_images h_imageThere h_teller h_ranks h_court h_sheets h_lf fo, _, _, _, _, _, _, _, _, _, _, _, _, _, _, _, _, _] H := hP
                    have hD : va_D A [oq6 h h_now h_trial h_images h_imageThere h_teller h_ranks h_court h_sheets h_lf fo, _, _, _, _, _, _, _, _, _, _, _, _, _, _, _, _, _] := hD
                    refine lv_iload hx hb dX7_read_175 (lv_at hl 1 rfl) ?_
                    exact hs_iret hx hb hr hlocks hK hP hD hS (wf, fo) [0, 1, 2, 3, 4, 5, 6, 7, 8, 9, 10, 11, 12, 13, 14, 15, 16, 17] rfl (hs_upnd rfl) dX7_read_177 (Or.inr ⟨1, nn, by decide, rfl, by omega, rfl, hs_nb c_52, (if e9 : fo = 0 then (by have h9 := (hI44.2.2.1 e9).1; have hx9 := hI44.1; have h2 : wh = nn := (by first | omega | exact absurd e9 (by assumption)); exact ⟨wh, by omega, hok9, Or.inr (Or.inl ⟨h2, rfl, by (try dsimp only); rw [hI.2, show x2 = wh by omega, e9]⟩)⟩) else (by have h9 := hI44.2.2.2 e9; have hx9 := hI44.1; exact ⟨wh, by omega, hok9, Or.inr (Or.inr ⟨by omega, by rw [← h9.2.2]; exact e9, rfl, by (try dsimp only); rw [hI.2, show x2 = wh by omega, ← h9.2.2]⟩)⟩))⟩)
                  · have nc_69 : ¬ wh ≤ x2 := fun hq9 => c_69 ((nI_leI (a := wh) (b := x2) (by omega) (by omega)).mpr hq9)
                    refine lv_aload_n hx hb dX7_read_134 rfl (lv_at hl 4 rfl) ?_
                    refine lv_aload hx hb dX7_read_135 (lv_at hl 3 rfl) ?_
                    refine lv_iload_n hx hb dX7_read_137 rfl (lv_at hl 7 rfl) ?_
                    refine lv_iconst (v := 2) hx hb dX7_read_138 hki_2 ?_
                    refine lv_iload hx hb dX7_read_139 (lv_at hl 0 rfl) ?_
                    refine lv_imul hx hb dX7_read_141 ?_
                    refine hs_topi (nI (2 * x2)) (pk_mul (2) (x2)) ?_
                    refine lv_iadd hx hb dX7_read_142 ?_
                    refine hs_ciM (va_runV (As := [.int (f + (nI (2 * x2)))]) (rest := [.ref h]) ⟨hx, hb, hml, hown, hts⟩ (gf_at l D k _ sh1 (s_row 1) (s_la 1) (s_z 1) (f + (nI (2 * x2))) (s_r 1) (by omega)) (cwV 1 hts gX7_read_X3_at rfl rfl rfl ⟨rfl, hq_X3_at⟩ ⟨Nat.le_of_ble_eq_true rfl, Nat.le_of_ble_eq_true rfl⟩) (hs_preV hK hN (hs_subP (w := [_, _]) hP [4, 5] rfl) (hD.sub (ws' := [_, _]) [4, 5] (hs_upnd rfl) rfl) (ci := 2) (q0 := 0) rfl rfl) rfl rfl hl.1 rfl (lv_room (Nat.le_of_ble_eq_true rfl)) dX7_read_143 ⟨Nat.le_of_ble_eq_true rfl, Nat.le_of_ble_eq_true rfl⟩) hP hD hS hA [true, true, true, true, false, false, true, true, true, true, true, true, true, true, true, true, true, true] [_, _, _, _, _, _, _, _, _, _, _, _, _, _, _, _] [_, _] rfl [0, 1] rfl [0, 1] (fun u_72 => [_, _]) (fun _ => rfl) (hs_upnd rfl) [true, true, true, true, false, false, true, true, true, true, true, true, true, true, true, true, true, true] (fun u_72 => [_, _, _, _, _, _, _, _, _, _, _, _, _, _, _, _, _, _]) (fun _ => rfl) (fun r_70 u_72 H locs hw_71 hP hD hS => ?_)
                    refine hs_topi (aTs (s_z 1) (s_r 1) (f + (nI (2 * x2)))) hw_71 ?_
                    refine lv_aload hx hb dX7_read_146 (lv_at hl 3 rfl) ?_
                    refine lv_iload_n hx hb dX7_read_148 rfl (lv_at hl 7 rfl) ?_
                    refine lv_iconst (v := 2) hx hb dX7_read_149 hki_2 ?_
                    refine lv_iload hx hb dX7_read_150 (lv_at hl 0 rfl) ?_
                    refine lv_imul hx hb dX7_read_152 ?_
                    refine hs_topi (nI (2 * x2)) (pk_mul (2) (x2)) ?_
                    refine lv_iadd hx hb dX7_read_153 ?_
                    refine lv_iconst (v := 1) hx hb dX7_read_154 hki_1 ?_
                    refine lv_iadd hx hb dX7_read_155 ?_
                    refine hs_ciM (va_runV (As := [.int ((f + (nI (2 * x2))) + 1)]) (rest := [.int (aTs (s_z 1) (s_r 1) (f + (nI (2 * x2)))), .ref h]) ⟨hx, hb, hml, hown, hts⟩ (gf_at l D k _ sh1 (s_row 1) (s_la 1) (s_z 1) ((f + (nI (2 * x2))) + 1) (s_r 1) (by omega)) (cwV 1 hts gX7_read_X3_at rfl rfl rfl ⟨rfl, hq_X3_at⟩ ⟨Nat.le_of_ble_eq_true rfl, Nat.le_of_ble_eq_true rfl⟩) (hs_preV hK hN (hs_subP (w := [_, _]) hP [4, 5] rfl) (hD.sub (ws' := [_, _]) [4, 5] (hs_upnd rfl) rfl) (ci := 2) (q0 := 0) rfl rfl) rfl rfl hl.1 rfl (lv_room (Nat.le_of_ble_eq_true rfl)) dX7_read_156 ⟨Nat.le_of_ble_eq_true rfl, Nat.le_of_ble_eq_true rfl⟩) hP hD hS hA [true, true, true, true, false, false, true, true, true, true, true, true, true, true, true, true, true, true] [_, _, _, _, _, _, _, _, _, _, _, _, _, _, _, _] [_, _] rfl [0, 1] rfl [0, 1] (fun u_75 => [_, _]) (fun _ => rfl) (hs_upnd rfl) [true, true, true, true, false, false, true, true, true, true, true, true, true, true, true, true, true, true] (fun u_75 => [_, _, _, _, _, _, _, _, _, _, _, _, _, _, _, _, _, _]) (fun _ => rfl) (fun r_73 u_75 H locs hw_74 hP hD hS => ?_)
                    refine hs_topi (aTs (s_z 1) (s_r 1) ((f + (nI (2 * x2))) + 1)) hw_74 ?_
                    refine hs_ciM (va_runV (As := [.int (aTs (s_z 1) (s_r 1) (f + (nI (2 * x2)))), .int (aTs (s_z 1) (s_r 1) ((f + (nI (2 * x2))) + 1))]) (rest := []) ⟨hx, hb, hml, hown, hts⟩ (gpf_weigh l D k _ h h_now h_trial h_images h_imageThere h_teller h_ranks h_court h_sheets h_lf h_lt n_a n_N n_J (fun j => ([wf, n_F 1, n_F 2, n_F 3, n_F 4, n_F 5, n_F 6] : List (Nat → Int32)).getD j hsz) (aTs (s_z 1) (s_r 1) (f + (nI (2 * x2)))) (aTs (s_z 1) (s_r 1) ((f + (nI (2 * x2))) + 1)) hNn ⟨hF.1, hF.2⟩ h2) (cwV 2 hts gX7_read_X7_weigh rfl rfl rfl ⟨rfl, hq_X7_weigh⟩ ⟨Nat.le_of_ble_eq_true rfl, Nat.le_of_ble_eq_true rfl⟩) (hs_preV hK hN (hs_subP (w := [_, _, _, _, _, _, _, _, _]) hP [0, 10, 11, 12, 13, 14, 15, 16, 17] rfl) (hD.sub (ws' := [_, _, _, _, _, _, _, _, _]) [0, 10, 11, 12, 13, 14, 15, 16, 17] (hs_upnd rfl) rfl) (ci := 6) (q0 := 0) rfl rfl) rfl rfl hl.1 rfl (lv_room (Nat.le_of_ble_eq_true rfl)) dX7_read_159 ⟨Nat.le_of_ble_eq_true rfl, Nat.le_of_ble_eq_true rfl⟩) hP hD hS hA [false, true, true, true, true, true, true, true, true, true, false, false, false, false, false, false, false, false] [_, _, _, _, _, _, _, _, _] [_, _, _, _, _, _, _, _, _] rfl [0, 1, 2, 3, 4, 5, 6, 7, 8] rfl [0, 1, 2, 3, 4, 5, 6, 7, 8] (fun u_78 => [_, _, _, _, _, _, _, _, _]) (fun _ => rfl) (hs_upnd rfl) [false, true, true, true, true, true, true, true, true, true, false, false, false, false, false, false, false, false] (fun u_78 => [_, _, _, _, _, _, _, _, _, _, _, _, _, _, _, _, _, _]) (fun _ => rfl) (fun r_76 u_78 H locs hw_77 hP hD hS => ?_)
                    have hw_77 : cWg (n_N 0) ((fun j => ([wf, n_F 1, n_F 2, n_F 3, n_F 4, n_F 5, n_F 6] : List (Nat → Int32)).getD j hsz) 0) (aTs (s_z 1) (s_r 1) (f + (nI (2 * x2)))) (aTs (s_z 1) (s_r 1) ((f + (nI (2 * x2))) + 1)) r_76 u_78 := hw_77
                    refine lv_pop hx hb dX7_read_162 rfl ?_
                    refine lv_iinc (v := nI (x2 + 1)) (lv' := [(8, .int (nI (x2 + 1))), (7, .int (nI wh)), (6, .int fo), (5, .ref sh1), (0, .ref h), (1, .int 1), (2, .int v), (3, .int f), (4, .int (nI nn))]) hx hb dX7_read_163 hl (k := 0) rfl (nI_add (x2) 1) (Nat.le_of_ble_eq_true rfl) rfl (fun ls hl => ?_)
                    refine lv_goto (tgt := 127) hx hb dX7_read_166 rfl ?_
                    exact ih127 (x2 + 1, u_78) (by (try dsimp only); exact ⟨by omega, (by rw [cWg_ok hw_77 (hok9 x2 (by omega)).2, hI.2]; rfl)⟩) (by (try dsimp only); omega) _ _ _ hP hD hS (lv_sub hl [0, 1, 2, 3, 4, 5, 6, 7, 8] rfl)
                · (try dsimp only); exact ⟨Nat.zero_le _, rfl⟩
              · refine lv_aload hx hb dX7_read_56 (lv_at hl 3 rfl) ?_
                refine lv_iload_n hx hb dX7_read_58 rfl (lv_at hl 6 rfl) ?_
                refine lv_iload_n hx hb dX7_read_59 rfl (lv_at hl 7 rfl) ?_
                refine lv_iconst (v := 2) hx hb dX7_read_60 hki_2 ?_
                refine lv_iload hx hb dX7_read_61 (lv_at hl 0 rfl) ?_
                refine lv_imul hx hb dX7_read_63 ?_
                refine hs_topi (nI (2 * x1)) (pk_mul (2) (x1)) ?_
                refine lv_iadd hx hb dX7_read_64 ?_
                refine hs_ciM (va_runV (As := [.int v, .int (f + (nI (2 * x1)))]) (rest := []) ⟨hx, hb, hml, hown, hts⟩ (gf_faultOfTwo l D k _ sh1 (s_row 1) (s_la 1) (s_z 1) v (f + (nI (2 * x1))) (by omega)) (cwV 2 hts gX7_read_X3_faultOfTwo rfl rfl rfl ⟨rfl, hq_X3_faultOfTwo⟩ ⟨Nat.le_of_ble_eq_true rfl, Nat.le_of_ble_eq_true rfl⟩) (hs_preV hK hN (hs_subP (w := [_]) hP [4] rfl) (hD.sub (ws' := [_]) [4] (hs_upnd rfl) rfl) (ci := 2) (q0 := 0) rfl rfl) rfl rfl hl.1 rfl (lv_room (Nat.le_of_ble_eq_true rfl)) dX7_read_65 ⟨Nat.le_of_ble_eq_true rfl, Nat.le_of_ble_eq_true rfl⟩) hP hD hS hA [true, true, true, true, false, true, true, true, true, true, true, true, true, true, true, true, true, true] [_, _, _, _, _, _, _, _, _, _, _, _, _, _, _, _, _] [_] rfl [0] rfl [0] (fun u_81 => [_]) (fun _ => rfl) (hs_upnd rfl) [true, true, true, true, false, true, true, true, true, true, true, true, true, true, true, true, true, true] (fun u_81 => [_, _, _, _, _, _, _, _, _, _, _, _, _, _, _, _, _, _]) (fun _ => rfl) (fun r_79 u_81 H locs hw_80 hP hD hS => ?_)
                refine hs_topi (fTw (s_la 1) (s_z 1) v (f + (nI (2 * x1)))) hw_80 ?_
                refine lv_istore (lv' := [(6, .int (fTw (s_la 1) (s_z 1) v (f + (nI (2 * x1))))), (8, .int (nI x1)), (7, .int (nI wh)), (5, .ref sh1), (0, .ref h), (1, .int 1), (2, .int v), (3, .int f), (4, .int (nI nn))]) hx hb dX7_read_68 hl (Nat.le_of_ble_eq_true rfl) rfl (fun ls hl => ?_)
                refine lv_iload hx hb dX7_read_70 (lv_at hl 0 rfl) ?_
                refine lv_if_ne (tgt := 118) hx hb dX7_read_72 rfl (fun c_82 => ?_) (fun c_82 => ?_)
                · refine lv_iinc (v := nI (x1 + 1)) (lv' := [(8, .int (nI (x1 + 1))), (6, .int (fTw (s_la 1) (s_z 1) v (f + (nI (2 * x1))))), (7, .int (nI wh)), (5, .ref sh1), (0, .ref h), (1, .int 1), (2, .int v), (3, .int f), (4, .int (nI nn))]) hx hb dX7_read_118 hl (k := 1) rfl (nI_add (x1) 1) (Nat.le_of_ble_eq_true rfl) rfl (fun ls hl => ?_)
                  refine lv_goto (tgt := 44) hx hb dX7_read_121 rfl ?_
                  exact ih44 (fTw (s_la 1) (s_z 1) v (f + (nI (2 * x1))), wh, x1 + 1) (by (try dsimp only); exact ⟨by omega, by omega, fun z9 => absurd z9 c_82, fun _ => ⟨by have h9 := (hI.2.2.1 c_68).1; omega, fun j hj => (hI.2.2.1 c_68).2 j (by have h9 := (hI.2.2.1 c_68).1; omega), by rw [(hI.2.2.1 c_68).1]; rfl⟩⟩) (by (try dsimp only); omega) _ _ _ hP hD hS (lv_sub hl [0, 2, 1, 3, 4, 5, 6, 7, 8] rfl)
                · refine lv_aload_n hx hb dX7_read_75 rfl (lv_at hl 4 rfl) ?_
                  refine va_get (D := D) (ci := 6) (v := .ref h_now) (C := RX7) (T := TX7) (N := 10) hx hb hts hiX7 hown hK hP 0 rfl rfl 0 (Nat.le_of_ble_eq_true rfl) fl10 (fun _ h9 => h9) rfl dX7_read_76 ?_
                  refine lv_aload hx hb dX7_read_79 (lv_at hl 3 rfl) ?_
                  refine lv_iload_n hx hb dX7_read_81 rfl (lv_at hl 7 rfl) ?_
                  refine lv_iconst (v := 2) hx hb dX7_read_82 hki_2 ?_
                  refine lv_iload hx hb dX7_read_83 (lv_at hl 1 rfl) ?_
                  refine lv_imul hx hb dX7_read_85 ?_
                  refine hs_topi (nI (2 * x1)) (pk_mul (2) (x1)) ?_
                  refine lv_iadd hx hb dX7_read_86 ?_
                  refine hs_ciM (va_runV (As := [.int (f + (nI (2 * x1)))]) (rest := [.ref h_now]) ⟨hx, hb, hml, hown, hts⟩ (gf_at l D k _ sh1 (s_row 1) (s_la 1) (s_z 1) (f + (nI (2 * x1))) (s_r 1) (by omega)) (cwV 1 hts gX7_read_X3_at rfl rfl rfl ⟨rfl, hq_X3_at⟩ ⟨Nat.le_of_ble_eq_true rfl, Nat.le_of_ble_eq_true rfl⟩) (hs_preV hK hN (hs_subP (w := [_, _]) hP [4, 5] rfl) (hD.sub (ws' := [_, _]) [4, 5] (hs_upnd rfl) rfl) (ci := 2) (q0 := 0) rfl rfl) rfl rfl hl.1 rfl (lv_room (Nat.le_of_ble_eq_true rfl)) dX7_read_87 ⟨Nat.le_of_ble_eq_true rfl, Nat.le_of_ble_eq_true rfl⟩) hP hD hS hA [true, true, true, true, false, false, true, true, true, true, true, true, true, true, true, true, true, true] [_, _, _, _, _, _, _, _, _, _, _, _, _, _, _, _] [_, _] rfl [0, 1] rfl [0, 1] (fun u_85 => [_, _]) (fun _ => rfl) (hs_upnd rfl) [true, true, true, true, false, false, true, true, true, true, true, true, true, true, true, true, true, true] (fun u_85 => [_, _, _, _, _, _, _, _, _, _, _, _, _, _, _, _, _, _]) (fun _ => rfl) (fun r_83 u_85 H locs hw_84 hP hD hS => ?_)
                  refine hs_topi (aTs (s_z 1) (s_r 1) (f + (nI (2 * x1)))) hw_84 ?_
                  refine lv_aload hx hb dX7_read_90 (lv_at hl 3 rfl) ?_
                  refine lv_iload_n hx hb dX7_read_92 rfl (lv_at hl 7 rfl) ?_
                  refine lv_iconst (v := 2) hx hb dX7_read_93 hki_2 ?_
                  refine lv_iload hx hb dX7_read_94 (lv_at hl 1 rfl) ?_
                  refine lv_imul hx hb dX7_read_96 ?_
                  refine hs_topi (nI (2 * x1)) (pk_mul (2) (x1)) ?_
                  refine lv_iadd hx hb dX7_read_97 ?_
                  refine lv_iconst (v := 1) hx hb dX7_read_98 hki_1 ?_
                  refine lv_iadd hx hb dX7_read_99 ?_
                  refine hs_ciM (va_runV (As := [.int ((f + (nI (2 * x1))) + 1)]) (rest := [.int (aTs (s_z 1) (s_r 1) (f + (nI (2 * x1)))), .ref h_now]) ⟨hx, hb, hml, hown, hts⟩ (gf_at l D k _ sh1 (s_row 1) (s_la 1) (s_z 1) ((f + (nI (2 * x1))) + 1) (s_r 1) (by omega)) (cwV 1 hts gX7_read_X3_at rfl rfl rfl ⟨rfl, hq_X3_at⟩ ⟨Nat.le_of_ble_eq_true rfl, Nat.le_of_ble_eq_true rfl⟩) (hs_preV hK hN (hs_subP (w := [_, _]) hP [4, 5] rfl) (hD.sub (ws' := [_, _]) [4, 5] (hs_upnd rfl) rfl) (ci := 2) (q0 := 0) rfl rfl) rfl rfl hl.1 rfl (lv_room (Nat.le_of_ble_eq_true rfl)) dX7_read_100 ⟨Nat.le_of_ble_eq_true rfl, Nat.le_of_ble_eq_true rfl⟩) hP hD hS hA [true, true, true, true, false, false, true, true, true, true, true, true, true, true, true, true, true, true] [_, _, _, _, _, _, _, _, _, _, _, _, _, _, _, _] [_, _] rfl [0, 1] rfl [0, 1] (fun u_88 => [_, _]) (fun _ => rfl) (hs_upnd rfl) [true, true, true, true, false, false, true, true, true, true, true, true, true, true, true, true, true, true] (fun u_88 => [_, _, _, _, _, _, _, _, _, _, _, _, _, _, _, _, _, _]) (fun _ => rfl) (fun r_86 u_88 H locs hw_87 hP hD hS => ?_)
                  refine hs_topi (aTs (s_z 1) (s_r 1) ((f + (nI (2 * x1))) + 1)) hw_87 ?_
                  refine hs_ciM (va_runV (As := [.int (aTs (s_z 1) (s_r 1) (f + (nI (2 * x1)))), .int (aTs (s_z 1) (s_r 1) ((f + (nI (2 * x1))) + 1))]) (rest := []) ⟨hx, hb, hml, hown, hts⟩ (g_canWeigh l D k _ h_now n_a n_N n_J (aTs (s_z 1) (s_r 1) (f + (nI (2 * x1)))) (aTs (s_z 1) (s_r 1) ((f + (nI (2 * x1))) + 1)) (by first | assumption | exact ⟨by first | omega | (dsimp; omega), by first | omega | (dsimp; omega), ⟨by first | omega | (dsimp; omega), by first | omega | (dsimp; omega)⟩, by first | omega | (dsimp; omega), by first | omega | (dsimp; omega)⟩)) (cwV 2 hts gX7_read_X6_canWeigh rfl rfl rfl ⟨rfl, hq_X6_canWeigh⟩ ⟨Nat.le_of_ble_eq_true rfl, Nat.le_of_ble_eq_true rfl⟩) (hs_preV hK hN (hs_subP (w := [_]) hP [10] rfl) (hD.sub (ws' := [_]) [10] (hs_upnd rfl) rfl) (ci := 5) (q0 := 0) rfl rfl) rfl rfl hl.1 rfl (lv_room (Nat.le_of_ble_eq_true rfl)) dX7_read_103 ⟨Nat.le_of_ble_eq_true rfl, Nat.le_of_ble_eq_true rfl⟩) hP hD hS hA [true, true, true, true, true, true, true, true, true, true, false, true, true, true, true, true, true, true] [_, _, _, _, _, _, _, _, _, _, _, _, _, _, _, _, _] [_] rfl [0] rfl [0] (fun u_91 => [_]) (fun _ => rfl) (hs_upnd rfl) [true, true, true, true, true, true, true, true, true, true, false, true, true, true, true, true, true, true] (fun u_91 => [_, _, _, _, _, _, _, _, _, _, _, _, _, _, _, _, _, _]) (fun _ => rfl) (fun r_89 u_91 H locs hw_90 hP hD hS => ?_)
                  refine hs_topi (hsb (hslt (aTs (s_z 1) (s_r 1) (f + (nI (2 * x1)))) (n_N 0) && hsin (aTs (s_z 1) (s_r 1) ((f + (nI (2 * x1))) + 1)) 0 9)) hw_90 ?_
                  refine lv_if_ne (tgt := 115) hx hb dX7_read_106 rfl (fun c_92 => ?_) (fun c_92 => ?_)
                  · refine lv_iinc (v := nI (wh + 1)) (lv' := [(7, .int (nI (wh + 1))), (6, .int (fTw (s_la 1) (s_z 1) v (f + (nI (2 * x1))))), (8, .int (nI x1)), (5, .ref sh1), (0, .ref h), (1, .int 1), (2, .int v), (3, .int f), (4, .int (nI nn))]) hx hb dX7_read_115 hl (k := 2) rfl (nI_add (wh) 1) (Nat.le_of_ble_eq_true rfl) rfl (fun ls hl => ?_)
                    refine lv_iinc (v := nI (x1 + 1)) (lv' := [(8, .int (nI (x1 + 1))), (7, .int (nI (wh + 1))), (6, .int (fTw (s_la 1) (s_z 1) v (f + (nI (2 * x1))))), (5, .ref sh1), (0, .ref h), (1, .int 1), (2, .int v), (3, .int f), (4, .int (nI nn))]) hx hb dX7_read_118 hl (k := 2) rfl (nI_add (x1) 1) (Nat.le_of_ble_eq_true rfl) rfl (fun ls hl => ?_)
                    refine lv_goto (tgt := 44) hx hb dX7_read_121 rfl ?_
                    exact ih44 (fTw (s_la 1) (s_z 1) v (f + (nI (2 * x1))), wh + 1, x1 + 1) (by (try dsimp only); exact ⟨by omega, by omega, fun _ => ⟨by have h9 := (hI.2.2.1 c_68).1; omega, fun j hj => if e9 : j = x1 then (by subst e9; exact ⟨c_82, hs_nb c_92⟩) else (hI.2.2.1 c_68).2 j (by omega)⟩, fun z9 => absurd c_82 z9⟩) (by (try dsimp only); omega) _ _ _ hP hD hS (lv_sub hl [0, 1, 2, 3, 4, 5, 6, 7, 8] rfl)
                  · refine lv_bipush (v := (-20)) hx hb dX7_read_109 hkb_m20 ?_
                    refine lv_iload hx hb dX7_read_111 (lv_at hl 1 rfl) ?_
                    refine lv_isub hx hb dX7_read_113 ?_
                    exact hs_iret hx hb hr hlocks hK hP hD hS (n_F 0, h_lt) [0, 1, 2, 3, 4, 5, 6, 7, 8, 9, 10, 11, 12, 13, 14, 15, 16, 17] rfl (hs_upnd rfl) dX7_read_114 (Or.inr ⟨1, nn, by decide, rfl, by omega, rfl, hs_nb c_52, x1, by omega, (hI.2.2.1 c_68).2, Or.inl ⟨by omega, c_82, hs_n0 c_92, rfl, rfl⟩⟩)
          · (try dsimp only); exact ⟨Nat.zero_le _, Nat.le_refl _, fun _ => ⟨rfl, fun j hj => absurd hj (Nat.not_lt_zero j)⟩, fun z9 => absurd rfl z9⟩
        · refine lv_iconst (v := (-1)) hx hb dX7_read_25 hki_m1 ?_
          exact hs_iret hx hb hr hlocks hK hP hD hS (n_F 0, h_lt) [0, 1, 2, 3, 4, 5, 6, 7, 8, 9, 10, 11, 12, 13, 14, 15, 16, 17] rfl (hs_upnd rfl) dX7_read_26 (Or.inl ⟨hs_rbad (Or.inr (Or.inr (hs_n0 c_56))), rfl, rfl⟩)
    · refine lv_iload_n hx hb dX7_read_7 rfl (lv_at hl 2 rfl) ?_
      refine hs_pi (va_runS (As := [.int v]) (rest := []) ⟨hx, hb, hml, hown, hts⟩ (g_isLane l D k _ v) (va_cwS 1 hts gX7_read_X3_isLane rfl rfl rfl hq_X3_isLane ⟨Nat.le_of_ble_eq_true rfl, Nat.le_of_ble_eq_true rfl⟩) (hs_preS hK hN (hs_subP (w := []) hP [] rfl) (hD.sub (ws' := []) [] rfl rfl)) rfl rfl hl.1 rfl (lv_room (Nat.le_of_ble_eq_true rfl)) dX7_read_8 ⟨Nat.le_of_ble_eq_true rfl, Nat.le_of_ble_eq_true rfl⟩) hP hD hS hA (fun r_93 u_95 H locs hw_94 hP hS => ?_)
      refine hs_topi (hsb (hsin v 0 2)) hw_94 ?_
      refine lv_if_eq (tgt := 25) hx hb dX7_read_11 rfl (fun c_96 => ?_) (fun c_96 => ?_)
      · refine lv_iconst (v := (-1)) hx hb dX7_read_25 hki_m1 ?_
        exact hs_iret hx hb hr hlocks hK hP hD hS (n_F 0, h_lt) [0, 1, 2, 3, 4, 5, 6, 7, 8, 9, 10, 11, 12, 13, 14, 15, 16, 17] rfl (hs_upnd rfl) dX7_read_26 (Or.inl ⟨hs_rbad (Or.inr (Or.inl (hs_n0 c_96))), rfl, rfl⟩)
      · refine lv_iload hx hb dX7_read_14 (lv_at hl 4 rfl) ?_
        refine lv_iconst (v := 0) hx hb dX7_read_16 hki_0 ?_
        refine lv_bipush (v := 20) hx hb dX7_read_17 hkb_20 ?_
        refine hs_pi (va_runS (As := [.int n, .int 0, .int 20]) (rest := []) ⟨hx, hb, hml, hown, hts⟩ (g_within l D k _ n 0 20) (va_cwS 3 hts gX7_read_X7_within rfl rfl rfl hq_X7_within ⟨Nat.le_of_ble_eq_true rfl, Nat.le_of_ble_eq_true rfl⟩) (hs_preS hK hN (hs_subP (w := []) hP [] rfl) (hD.sub (ws' := []) [] rfl rfl)) rfl rfl hl.1 rfl (lv_room (Nat.le_of_ble_eq_true rfl)) dX7_read_19 ⟨Nat.le_of_ble_eq_true rfl, Nat.le_of_ble_eq_true rfl⟩) hP hD hS hA (fun r_97 u_99 H locs hw_98 hP hS => ?_)
        refine hs_topi (hsb (hsin n 0 20)) hw_98 ?_
        refine lv_if_ne (tgt := 27) hx hb dX7_read_22 rfl (fun c_100 => ?_) (fun c_100 => ?_)
        · obtain ⟨nn, hnn, hnnb, rfl⟩ := hs_rng (lo := 0) (hi := 20) (by omega) (by omega) (hs_nb c_100)
          refine lv_aload_n hx hb dX7_read_27 rfl (lv_at hl 0 rfl) ?_
          refine va_get (D := D) (ci := 6) (v := .ref h_sheets) (C := RX7) (T := TX7) (N := 10) hx hb hts hiX7 hown hK hP 0 rfl rfl 7 (Nat.le_of_ble_eq_true rfl) fl50 (fun _ h9 => h9) rfl dX7_read_28 ?_
          refine lv_iload_n hx hb dX7_read_31 rfl (lv_at hl 1 rfl) ?_
          refine va_aldq hx hb hK hP 1 3 rfl rfl (hs_in (by decide)) dX7_read_32 ?_
          refine W.eq (g2 := F0 m 33 ls (.ref sh2 :: [])) rfl ?_
          refine lv_astore (lv' := [(5, .ref sh2), (0, .ref h), (1, .int 2), (2, .int v), (3, .int f), (4, .int (nI nn))]) hx hb dX7_read_33 hl (Nat.le_of_ble_eq_true rfl) rfl (fun ls hl => ?_)
          refine lv_iconst (v := 0) hx hb dX7_read_35 hki_0 ?_
          refine lv_istore (lv' := [(6, .int 0), (5, .ref sh2), (0, .ref h), (1, .int 2), (2, .int v), (3, .int f), (4, .int (nI nn))]) hx hb dX7_read_36 hl (Nat.le_of_ble_eq_true rfl) rfl (fun ls hl => ?_)
          refine lv_iconst (v := 0) hx hb dX7_read_38 hki_0 ?_
          refine lv_istore (lv' := [(7, .int 0), (6, .int 0), (5, .ref sh2), (0, .ref h), (1, .int 2), (2, .int v), (3, .int f), (4, .int (nI nn))]) hx hb dX7_read_39 hl (Nat.le_of_ble_eq_true rfl) rfl (fun ls hl => ?_)
          refine lv_iconst (v := 0) hx hb dX7_read_41 hki_0 ?_
          refine lv_istore (lv' := [(8, .int 0), (7, .int 0), (6, .int 0), (5, .ref sh2), (0, .ref h), (1, .int 2), (2, .int v), (3, .int f), (4, .int (nI nn))]) hx hb dX7_read_42 hl (Nat.le_of_ble_eq_true rfl) rfl (fun ls hl => ?_)
          refine hs_while (σ := Int32 × Nat × Nat) (fun x => x.2.2 ≤ nn ∧ x.2.1 ≤ x.2.2 ∧ (x.1 = 0 → (x.2.1 = x.2.2 ∧ ∀ j, j < x.2.2 → okR (n_N 0) (s_la 2) (s_z 2) (s_r 2) v f j)) ∧ (¬ x.1 = 0 → (x.2.1 + 1 = x.2.2 ∧ (∀ j, j < x.2.1 → okR (n_N 0) (s_la 2) (s_z 2) (s_r 2) v f j) ∧ x.1 = fTw (s_la 2) (s_z 2) v (pRd f x.2.1)))) (fun x => nn - x.2.2) (fun x => [oq6 h h_now h_trial h_images h_imageThere h_teller h_ranks h_court h_sheets h_lf h_lt, (h_sheets, .inl (k 3, 4, .inr (.inr (.inr (.inr (va_up (va_up (va_up (va_up (fun _ => none) 0 (some sh0)) 1 (some sh1)) 2 (some sh2)) 3 (some sh3))))))), oq2 sh0 (s_row 0) (s_la 0) (nI (s_z 0)), oqI k (s_row 0) 40 (s_r 0), oq2 sh1 (s_row 1) (s_la 1) (nI (s_z 1)), oqI k (s_row 1) 40 (s_r 1), oq2 sh2 (s_row 2) (s_la 2) (nI (s_z 2)), oqI k (s_row 2) 40 (s_r 2), oq2 sh3 (s_row 3) (s_la 3) (nI (s_z 3)), oqI k (s_row 3) 40 (s_r 3), oqT h_now n_a n_N n_J, oqF0 k n_a n_F, oqF1 k n_a n_F, oqF2 k n_a n_F, oqF3 k n_a n_F, oqF4 k n_a n_F, oqF5 k n_a n_F, oqF6 k n_a n_F]) (fun x => [(8, .int (nI (x.2.2))), (7, .int (nI (x.2.1))), (6, .int (x.1)), (5, .ref sh2), (0, .ref h), (1, .int 2), (2, .int v), (3, .int f), (4, .int (nI nn))]) ?_ (0, 0, 0) ?_ hP hD hS hl
          · intro x hI ih44 H locs ls hP hD hS hl
            obtain ⟨fo, wh, x1⟩ := x
            try dsimp only at hI
            have hP : va_P D vwCl [_, _, _, _, _, _, _, _, _, _, _, _, _, _, _, _, _, _] H := hP
            have hD : va_D A [_, _, _, _, _, _, _, _, _, _, _, _, _, _, _, _, _, _] := hD
            have hl : lv_has ls 9 [(8, .int (nI x1)), (7, .int (nI wh)), (6, .int fo), (5, .ref sh2), (0, .ref h), (1, .int 2), (2, .int v), (3, .int f), (4, .int (nI nn))] := hl
            refine lv_iload hx hb dX7_read_44 (lv_at hl 0 rfl) ?_
            refine lv_iload hx hb dX7_read_46 (lv_at hl 8 rfl) ?_
            refine lv_icmp_ge (tgt := 124) hx hb dX7_read_48 rfl (fun c_101 => ?_) (fun c_101 => ?_)
            · have nc_101 : nn ≤ x1 := (nI_leI (a := nn) (b := x1) (by omega) (by omega)).mp c_101
              have hI44 := hI
              have hok9 : ∀ j, j < wh → okR (n_N 0) (s_la 2) (s_z 2) (s_r 2) v f j := fun j hj => if e9 : fo = 0 then (hI.2.2.1 e9).2 j (by have h9 := (hI.2.2.1 e9).1; omega) else (hI.2.2.2 e9).2.1 j hj
              refine lv_iconst (v := 0) hx hb dX7_read_124 hki_0 ?_
              refine lv_istore (lv' := [(8, .int 0), (7, .int (nI wh)), (6, .int fo), (5, .ref sh2), (0, .ref h), (1, .int 2), (2, .int v), (3, .int f), (4, .int (nI nn))]) hx hb dX7_read_125 hl (Nat.le_of_ble_eq_true rfl) rfl (fun ls hl => ?_)
              refine hs_while (σ := Nat × (Nat → Int32)) (fun x => x.1 ≤ wh ∧ x.2 = wtR (s_z 2) (s_r 2) f (n_F 0) x.1) (fun x => wh - x.1) (fun x => [oq6 h h_now h_trial h_images h_imageThere h_teller h_ranks h_court h_sheets h_lf h_lt, (h_sheets, .inl (k 3, 4, .inr (.inr (.inr (.inr (va_up (va_up (va_up (va_up (fun _ => none) 0 (some sh0)) 1 (some sh1)) 2 (some sh2)) 3 (some sh3))))))), oq2 sh0 (s_row 0) (s_la 0) (nI (s_z 0)), oqI k (s_row 0) 40 (s_r 0), oq2 sh1 (s_row 1) (s_la 1) (nI (s_z 1)), oqI k (s_row 1) 40 (s_r 1), oq2 sh2 (s_row 2) (s_la 2) (nI (s_z 2)), oqI k (s_row 2) 40 (s_r 2), oq2 sh3 (s_row 3) (s_la 3) (nI (s_z 3)), oqI k (s_row 3) 40 (s_r 3), oqT h_now n_a n_N n_J, oqI k (n_a 0) 8 ((x.2)), oqF1 k n_a n_F, oqF2 k n_a n_F, oqF3 k n_a n_F, oqF4 k n_a n_F, oqF5 k n_a n_F, oqF6 k n_a n_F]) (fun x => [(8, .int (nI (x.1))), (7, .int (nI wh)), (6, .int fo), (5, .ref sh2), (0, .ref h), (1, .int 2), (2, .int v), (3, .int f), (4, .int (nI nn))]) ?_ (0, n_F 0) ?_ hP hD hS hl
              · intro x hI ih127 H locs ls hP hD hS hl
                obtain ⟨x2, wf⟩ := x
                try dsimp only at hI
                have hP : va_P D vwCl [_, _, _, _, _, _, _, _, _, _, _, oqI k (n_a 0) 8 (wf), _, _, _, _, _, _] H := hP
                have hD : va_D A [_, _, _, _, _, _, _, _, _, _, _, oqI k (n_a 0) 8 (wf), _, _, _, _, _, _] := hD
                have hl : lv_has ls 9 [(8, .int (nI x2)), (7, .int (nI wh)), (6, .int fo), (5, .ref sh2), (0, .ref h), (1, .int 2), (2, .int v), (3, .int f), (4, .int (nI nn))] := hl
                refine lv_iload hx hb dX7_read_127 (lv_at hl 0 rfl) ?_
                refine lv_iload hx hb dX7_read_129 (lv_at hl 1 rfl) ?_
                refine lv_icmp_ge (tgt := 169) hx hb dX7_read_131 rfl (fun c_102 => ?_) (fun c_102 => ?_)
                · have nc_102 : wh ≤ x2 := (nI_leI (a := wh) (b := x2) (by omega) (by omega)).mp c_102
                  refine lv_aload_n hx hb dX7_read_169 rfl (lv_at hl 4 rfl) ?_
                  refine lv_iload hx hb dX7_read_170 (lv_at hl 2 rfl) ?_
                  refine va_put (D := D) (ci := 6) (v := .int fo) (ty := .int) (C := RX7) (T := TX7) (N := 10) hx hb hts hiX7 tyX7 tyX7_ok nmX7 hown hK hP hD hS 0 rfl rfl 9 (Nat.le_of_ble_eq_true rfl) fl283 (fun _ h9 => h9) rfl (by decide +kernel) rfl rfl (Nat.le_of_ble_eq_true rfl) dX7_read_172 (fun H locs hP hD hS => ?_)
                  have hP : va_P D vwCl [oq6 h h_now h_trial h_images h_imageThere h_teller h_ranks h_court h_sheets h_lf fo, _, _, _, _, _, _, _, _, _, _, _, _, _, _, _, _, _] H := hP
                  have hD : va_D A [oq6 h h_now h_trial h_images h_imageThere h_teller h_ranks h_court h_sheets h_lf fo, _, _, _, _, _, _, _, _, _, _, _, _, _, _, _, _, _] := hD
                  refine lv_iload hx hb dX7_read_175 (lv_at hl 1 rfl) ?_
                  exact hs_iret hx hb hr hlocks hK hP hD hS (wf, fo) [0, 1, 2, 3, 4, 5, 6, 7, 8, 9, 10, 11, 12, 13, 14, 15, 16, 17] rfl (hs_upnd rfl) dX7_read_177 (Or.inr ⟨2, nn, by decide, rfl, by omega, rfl, hs_nb c_96, (if e9 : fo = 0 then (by have h9 := (hI44.2.2.1 e9).1; have hx9 := hI44.1; have h2 : wh = nn := (by first | omega | exact absurd e9 (by assumption)); exact ⟨wh, by omega, hok9, Or.inr (Or.inl ⟨h2, rfl, by (try dsimp only); rw [hI.2, show x2 = wh by omega, e9]⟩)⟩) else (by have h9 := hI44.2.2.2 e9; have hx9 := hI44.1; exact ⟨wh, by omega, hok9, Or.inr (Or.inr ⟨by omega, by rw [← h9.2.2]; exact e9, rfl, by (try dsimp only); rw [hI.2, show x2 = wh by omega, ← h9.2.2]⟩)⟩))⟩)
                · have nc_102 : ¬ wh ≤ x2 := fun hq9 => c_102 ((nI_leI (a := wh) (b := x2) (by omega) (by omega)).mpr hq9)
                  refine lv_aload_n hx hb dX7_read_134 rfl (lv_at hl 4 rfl) ?_
                  refine lv_aload hx hb dX7_read_135 (lv_at hl 3 rfl) ?_
                  refine lv_iload_n hx hb dX7_read_137 rfl (lv_at hl 7 rfl) ?_
                  refine lv_iconst (v := 2) hx hb dX7_read_138 hki_2 ?_
                  refine lv_iload hx hb dX7_read_139 (lv_at hl 0 rfl) ?_
                  refine lv_imul hx hb dX7_read_141 ?_
                  refine hs_topi (nI (2 * x2)) (pk_mul (2) (x2)) ?_
                  refine lv_iadd hx hb dX7_read_142 ?_
                  refine hs_ciM (va_runV (As := [.int (f + (nI (2 * x2)))]) (rest := [.ref h]) ⟨hx, hb, hml, hown, hts⟩ (gf_at l D k _ sh2 (s_row 2) (s_la 2) (s_z 2) (f + (nI (2 * x2))) (s_r 2) (by omega)) (cwV 1 hts gX7_read_X3_at rfl rfl rfl ⟨rfl, hq_X3_at⟩ ⟨Nat.le_of_ble_eq_true rfl, Nat.le_of_ble_eq_true rfl⟩) (hs_preV hK hN (hs_subP (w := [_, _]) hP [6, 7] rfl) (hD.sub (ws' := [_, _]) [6, 7] (hs_upnd rfl) rfl) (ci := 2) (q0 := 0) rfl rfl) rfl rfl hl.1 rfl (lv_room (Nat.le_of_ble_eq_true rfl)) dX7_read_143 ⟨Nat.le_of_ble_eq_true rfl, Nat.le_of_ble_eq_true rfl⟩) hP hD hS hA [true, true, true, true, true, true, false, false, true, true, true, true, true, true, true, true, true, true] [_, _, _, _, _, _, _, _, _, _, _, _, _, _, _, _] [_, _] rfl [0, 1] rfl [0, 1] (fun u_105 => [_, _]) (fun _ => rfl) (hs_upnd rfl) [true, true, true, true, true, true, false, false, true, true, true, true, true, true, true, true, true, true] (fun u_105 => [_, _, _, _, _, _, _, _, _, _, _, _, _, _, _, _, _, _]) (fun _ => rfl) (fun r_103 u_105 H locs hw_104 hP hD hS => ?_)
                  refine hs_topi (aTs (s_z 2) (s_r 2) (f + (nI (2 * x2)))) hw_104 ?_
                  refine lv_aload hx hb dX7_read_146 (lv_at hl 3 rfl) ?_
                  refine lv_iload_n hx hb dX7_read_148 rfl (lv_at hl 7 rfl) ?_
                  refine lv_iconst (v := 2) hx hb dX7_read_149 hki_2 ?_
                  refine lv_iload hx hb dX7_read_150 (lv_at hl 0 rfl) ?_
                  refine lv_imul hx hb dX7_read_152 ?_
                  refine hs_topi (nI (2 * x2)) (pk_mul (2) (x2)) ?_
                  refine lv_iadd hx hb dX7_read_153 ?_
                  refine lv_iconst (v := 1) hx hb dX7_read_154 hki_1 ?_
                  refine lv_iadd hx hb dX7_read_155 ?_
                  refine hs_ciM (va_runV (As := [.int ((f + (nI (2 * x2))) + 1)]) (rest := [.int (aTs (s_z 2) (s_r 2) (f + (nI (2 * x2)))), .ref h]) ⟨hx, hb, hml, hown, hts⟩ (gf_at l D k _ sh2 (s_row 2) (s_la 2) (s_z 2) ((f + (nI (2 * x2))) + 1) (s_r 2) (by omega)) (cwV 1 hts gX7_read_X3_at rfl rfl rfl ⟨rfl, hq_X3_at⟩ ⟨Nat.le_of_ble_eq_true rfl, Nat.le_of_ble_eq_true rfl⟩) (hs_preV hK hN (hs_subP (w := [_, _]) hP [6, 7] rfl) (hD.sub (ws' := [_, _]) [6, 7] (hs_upnd rfl) rfl) (ci := 2) (q0 := 0) rfl rfl) rfl rfl hl.1 rfl (lv_room (Nat.le_of_ble_eq_true rfl)) dX7_read_156 ⟨Nat.le_of_ble_eq_true rfl, Nat.le_of_ble_eq_true rfl⟩) hP hD hS hA [true, true, true, true, true, true, false, false, true, true, true, true, true, true, true, true, true, true] [_, _, _, _, _, _, _, _, _, _, _, _, _, _, _, _] [_, _] rfl [0, 1] rfl [0, 1] (fun u_108 => [_, _]) (fun _ => rfl) (hs_upnd rfl) [true, true, true, true, true, true, false, false, true, true, true, true, true, true, true, true, true, true] (fun u_108 => [_, _, _, _, _, _, _, _, _, _, _, _, _, _, _, _, _, _]) (fun _ => rfl) (fun r_106 u_108 H locs hw_107 hP hD hS => ?_)
                  refine hs_topi (aTs (s_z 2) (s_r 2) ((f + (nI (2 * x2))) + 1)) hw_107 ?_
                  refine hs_ciM (va_runV (As := [.int (aTs (s_z 2) (s_r 2) (f + (nI (2 * x2)))), .int (aTs (s_z 2) (s_r 2) ((f + (nI (2 * x2))) + 1))]) (rest := []) ⟨hx, hb, hml, hown, hts⟩ (gpf_weigh l D k _ h h_now h_trial h_images h_imageThere h_teller h_ranks h_court h_sheets h_lf h_lt n_a n_N n_J (fun j => ([wf, n_F 1, n_F 2, n_F 3, n_F 4, n_F 5, n_F 6] : List (Nat → Int32)).getD j hsz) (aTs (s_z 2) (s_r 2) (f + (nI (2 * x2)))) (aTs (s_z 2) (s_r 2) ((f + (nI (2 * x2))) + 1)) hNn ⟨hF.1, hF.2⟩ h2) (cwV 2 hts gX7_read_X7_weigh rfl rfl rfl ⟨rfl, hq_X7_weigh⟩ ⟨Nat.le_of_ble_eq_true rfl, Nat.le_of_ble_eq_true rfl⟩) (hs_preV hK hN (hs_subP (w := [_, _, _, _, _, _, _, _, _]) hP [0, 10, 11, 12, 13, 14, 15, 16, 17] rfl) (hD.sub (ws' := [_, _, _, _, _, _, _, _, _]) [0, 10, 11, 12, 13, 14, 15, 16, 17] (hs_upnd rfl) rfl) (ci := 6) (q0 := 0) rfl rfl) rfl rfl hl.1 rfl (lv_room (Nat.le_of_ble_eq_true rfl)) dX7_read_159 ⟨Nat.le_of_ble_eq_true rfl, Nat.le_of_ble_eq_true rfl⟩) hP hD hS hA [false, true, true, true, true, true, true, true, true, true, false, false, false, false, false, false, false, false] [_, _, _, _, _, _, _, _, _] [_, _, _, _, _, _, _, _, _] rfl [0, 1, 2, 3, 4, 5, 6, 7, 8] rfl [0, 1, 2, 3, 4, 5, 6, 7, 8] (fun u_111 => [_, _, _, _, _, _, _, _, _]) (fun _ => rfl) (hs_upnd rfl) [false, true, true, true, true, true, true, true, true, true, false, false, false, false, false, false, false, false] (fun u_111 => [_, _, _, _, _, _, _, _, _, _, _, _, _, _, _, _, _, _]) (fun _ => rfl) (fun r_109 u_111 H locs hw_110 hP hD hS => ?_)
                  have hw_110 : cWg (n_N 0) ((fun j => ([wf, n_F 1, n_F 2, n_F 3, n_F 4, n_F 5, n_F 6] : List (Nat → Int32)).getD j hsz) 0) (aTs (s_z 2) (s_r 2) (f + (nI (2 * x2)))) (aTs (s_z 2) (s_r 2) ((f + (nI (2 * x2))) + 1)) r_109 u_111 := hw_110
                  refine lv_pop hx hb dX7_read_162 rfl ?_
                  refine lv_iinc (v := nI (x2 + 1)) (lv' := [(8, .int (nI (x2 + 1))), (7, .int (nI wh)), (6, .int fo), (5, .ref sh2), (0, .ref h), (1, .int 2), (2, .int v), (3, .int f), (4, .int (nI nn))]) hx hb dX7_read_163 hl (k := 0) rfl (nI_add (x2) 1) (Nat.le_of_ble_eq_true rfl) rfl (fun ls hl => ?_)
                  refine lv_goto (tgt := 127) hx hb dX7_read_166 rfl ?_
                  exact ih127 (x2 + 1, u_111) (by (try dsimp only); exact ⟨by omega, (by rw [cWg_ok hw_110 (hok9 x2 (by omega)).2, hI.2]; rfl)⟩) (by (try dsimp only); omega) _ _ _ hP hD hS (lv_sub hl [0, 1, 2, 3, 4, 5, 6, 7, 8] rfl)
              · (try dsimp only); exact ⟨Nat.zero_le _, rfl⟩
            · have nc_101 : ¬ nn ≤ x1 := fun hq9 => c_101 ((nI_leI (a := nn) (b := x1) (by omega) (by omega)).mpr hq9)
              refine lv_iload hx hb dX7_read_51 (lv_at hl 2 rfl) ?_
              refine lv_if_ne (tgt := 124) hx hb dX7_read_53 rfl (fun c_112 => ?_) (fun c_112 => ?_)
              · have hI44 := hI
                have hok9 : ∀ j, j < wh → okR (n_N 0) (s_la 2) (s_z 2) (s_r 2) v f j := fun j hj => if e9 : fo = 0 then (hI.2.2.1 e9).2 j (by have h9 := (hI.2.2.1 e9).1; omega) else (hI.2.2.2 e9).2.1 j hj
                refine lv_iconst (v := 0) hx hb dX7_read_124 hki_0 ?_
                refine lv_istore (lv' := [(8, .int 0), (7, .int (nI wh)), (6, .int fo), (5, .ref sh2), (0, .ref h), (1, .int 2), (2, .int v), (3, .int f), (4, .int (nI nn))]) hx hb dX7_read_125 hl (Nat.le_of_ble_eq_true rfl) rfl (fun ls hl => ?_)
                refine hs_while (σ := Nat × (Nat → Int32)) (fun x => x.1 ≤ wh ∧ x.2 = wtR (s_z 2) (s_r 2) f (n_F 0) x.1) (fun x => wh - x.1) (fun x => [oq6 h h_now h_trial h_images h_imageThere h_teller h_ranks h_court h_sheets h_lf h_lt, (h_sheets, .inl (k 3, 4, .inr (.inr (.inr (.inr (va_up (va_up (va_up (va_up (fun _ => none) 0 (some sh0)) 1 (some sh1)) 2 (some sh2)) 3 (some sh3))))))), oq2 sh0 (s_row 0) (s_la 0) (nI (s_z 0)), oqI k (s_row 0) 40 (s_r 0), oq2 sh1 (s_row 1) (s_la 1) (nI (s_z 1)), oqI k (s_row 1) 40 (s_r 1), oq2 sh2 (s_row 2) (s_la 2) (nI (s_z 2)), oqI k (s_row 2) 40 (s_r 2), oq2 sh3 (s_row 3) (s_la 3) (nI (s_z 3)), oqI k (s_row 3) 40 (s_r 3), oqT h_now n_a n_N n_J, oqI k (n_a 0) 8 ((x.2)), oqF1 k n_a n_F, oqF2 k n_a n_F, oqF3 k n_a n_F, oqF4 k n_a n_F, oqF5 k n_a n_F, oqF6 k n_a n_F]) (fun x => [(8, .int (nI (x.1))), (7, .int (nI wh)), (6, .int fo), (5, .ref sh2), (0, .ref h), (1, .int 2), (2, .int v), (3, .int f), (4, .int (nI nn))]) ?_ (0, n_F 0) ?_ hP hD hS hl
                · intro x hI ih127 H locs ls hP hD hS hl
                  obtain ⟨x2, wf⟩ := x
                  try dsimp only at hI
                  have hP : va_P D vwCl [_, _, _, _, _, _, _, _, _, _, _, oqI k (n_a 0) 8 (wf), oqF1 k n_a n_F, oqF2 k n_a n_F, oqF3 k n_a n_F, oqF4 k n_a n_F, oqF5 k n_a n_F, oqF6 k n_a n_F] H := hP
                  have hD : va_D A [_, _, _, _, _, _, _, _, _, _, _, oqI k (n_a 0) 8 (wf), oqF1 k n_a n_F, oqF2 k n_a n_F, oqF3 k n_a n_F, oqF4 k n_a n_F, oqF5 k n_a n_F, oqF6 k n_a n_F] := hD
                  have hl : lv_has ls 9 [(8, .int (nI x2)), (7, .int (nI wh)), (6, .int fo), (5, .ref sh2), (0, .ref h), (1, .int 2), (2, .int v), (3, .int f), (4, .int (nI nn))] := hl
                  refine lv_iload hx hb dX7_read_127 (lv_at hl 0 rfl) ?_
                  refine lv_iload hx hb dX7_read_129 (lv_at hl 1 rfl) ?_
                  refine lv_icmp_ge (tgt := 169) hx hb dX7_read_131 rfl (fun c_113 => ?_) (fun c_113 => ?_)
                  · have nc_113 : wh ≤ x2 := (nI_leI (a := wh) (b := x2) (by omega) (by omega)).mp c_113
                    refine lv_aload_n hx hb dX7_read_169 rfl (lv_at hl 4 rfl) ?_
                    refine lv_iload hx hb dX7_read_170 (lv_at hl 2 rfl) ?_
                    refine va_put (D := D) (ci := 6) (v := .int fo) (ty := .int) (C := RX7) (T := TX7) (N := 10) hx hb hts hiX7 tyX7 tyX7_ok nmX7 hown hK hP hD hS 0 rfl rfl 9 (Nat.le_of_ble_eq_true rfl) fl283 (fun _ h9 => h9) rfl (by decide +kernel) rfl rfl (Nat.le_of_ble_eq_true rfl) dX7_read_172 (fun H locs hP hD hS => ?_)
                    have hP : va_P D vwCl [oq6 h h_now h_trial h_images h_imageThere h_teller h_ranks h_court h_sheets h_lf fo, _, _, _, _, _, _, _, _, _, _, _, _, _, _, _, _, _] H := hP
                    have hD : va_D A [oq6 h h_now h_trial h_images h_imageThere h_teller h_ranks h_court h_sheets h_lf fo, _, _, _, _, _, _, _, _, _, _, _, _, _, _, _, _, _] := hD
                    refine lv_iload hx hb dX7_read_175 (lv_at hl 1 rfl) ?_
                    exact hs_iret hx hb hr hlocks hK hP hD hS (wf, fo) [0, 1, 2, 3, 4, 5, 6, 7, 8, 9, 10, 11, 12, 13, 14, 15, 16, 17] rfl (hs_upnd rfl) dX7_read_177 (Or.inr ⟨2, nn, by decide, rfl, by omega, rfl, hs_nb c_96, (if e9 : fo = 0 then (by have h9 := (hI44.2.2.1 e9).1; have hx9 := hI44.1; have h2 : wh = nn := (by first | omega | exact absurd e9 (by assumption)); exact ⟨wh, by omega, hok9, Or.inr (Or.inl ⟨h2, rfl, by (try dsimp only); rw [hI.2, show x2 = wh by omega, e9]⟩)⟩) else (by have h9 := hI44.2.2.2 e9; have hx9 := hI44.1; exact ⟨wh, by omega, hok9, Or.inr (Or.inr ⟨by omega, by rw [← h9.2.2]; exact e9, rfl, by (try dsimp only); rw [hI.2, show x2 = wh by omega, ← h9.2.2]⟩)⟩))⟩)
                  · have nc_113 : ¬ wh ≤ x2 := fun hq9 => c_113 ((nI_leI (a := wh) (b := x2) (by omega) (by omega)).mpr hq9)
                    refine lv_aload_n hx hb dX7_read_134 rfl (lv_at hl 4 rfl) ?_
                    refine lv_aload hx hb dX7_read_135 (lv_at hl 3 rfl) ?_
                    refine lv_iload_n hx hb dX7_read_137 rfl (lv_at hl 7 rfl) ?_
                    refine lv_iconst (v := 2) hx hb dX7_read_138 hki_2 ?_
                    refine lv_iload hx hb dX7_read_139 (lv_at hl 0 rfl) ?_
                    refine lv_imul hx hb dX7_read_141 ?_
                    refine hs_topi (nI (2 * x2)) (pk_mul (2) (x2)) ?_
                    refine lv_iadd hx hb dX7_read_142 ?_
                    refine hs_ciM (va_runV (As := [.int (f + (nI (2 * x2)))]) (rest := [.ref h]) ⟨hx, hb, hml, hown, hts⟩ (gf_at l D k _ sh2 (s_row 2) (s_la 2) (s_z 2) (f + (nI (2 * x2))) (s_r 2) (by omega)) (cwV 1 hts gX7_read_X3_at rfl rfl rfl ⟨rfl, hq_X3_at⟩ ⟨Nat.le_of_ble_eq_true rfl, Nat.le_of_ble_eq_true rfl⟩) (hs_preV hK hN (hs_subP (w := [_, _]) hP [6, 7] rfl) (hD.sub (ws' := [_, _]) [6, 7] (hs_upnd rfl) rfl) (ci := 2) (q0 := 0) rfl rfl) rfl rfl hl.1 rfl (lv_room (Nat.le_of_ble_eq_true rfl)) dX7_read_143 ⟨Nat.le_of_ble_eq_true rfl, Nat.le_of_ble_eq_true rfl⟩) hP hD hS hA [true, true, true, true, true, true, false, false, true, true, true, true, true, true, true, true, true, true] [_, _, _, _, _, _, _, _, _, _, _, _, _, _, _, _] [_, _] rfl [0, 1] rfl [0, 1] (fun u_116 => [_, _]) (fun _ => rfl) (hs_upnd rfl) [true, true, true, true, true, true, false, false, true, true, true, true, true, true, true, true, true, true] (fun u_116 => [_, _, _, _, _, _, _, _, _, _, _, _, _, _, _, _, _, _]) (fun _ => rfl) (fun r_114 u_116 H locs hw_115 hP hD hS => ?_)
                    refine hs_topi (aTs (s_z 2) (s_r 2) (f + (nI (2 * x2)))) hw_115 ?_
                    refine lv_aload hx hb dX7_read_146 (lv_at hl 3 rfl) ?_
                    refine lv_iload_n hx hb dX7_read_148 rfl (lv_at hl 7 rfl) ?_
                    refine lv_iconst (v := 2) hx hb dX7_read_149 hki_2 ?_
                    refine lv_iload hx hb dX7_read_150 (lv_at hl 0 rfl) ?_
                    refine lv_imul hx hb dX7_read_152 ?_
                    refine hs_topi (nI (2 * x2)) (pk_mul (2) (x2)) ?_
                    refine lv_iadd hx hb dX7_read_153 ?_
                    refine lv_iconst (v := 1) hx hb dX7_read_154 hki_1 ?_
                    refine lv_iadd hx hb dX7_read_155 ?_
                    refine hs_ciM (va_runV (As := [.int ((f + (nI (2 * x2))) + 1)]) (rest := [.int (aTs (s_z 2) (s_r 2) (f + (nI (2 * x2)))), .ref h]) ⟨hx, hb, hml, hown, hts⟩ (gf_at l D k _ sh2 (s_row 2) (s_la 2) (s_z 2) ((f + (nI (2 * x2))) + 1) (s_r 2) (by omega)) (cwV 1 hts gX7_read_X3_at rfl rfl rfl ⟨rfl, hq_X3_at⟩ ⟨Nat.le_of_ble_eq_true rfl, Nat.le_of_ble_eq_true rfl⟩) (hs_preV hK hN (hs_subP (w := [_, _]) hP [6, 7] rfl) (hD.sub (ws' := [_, _]) [6, 7] (hs_upnd rfl) rfl) (ci := 2) (q0 := 0) rfl rfl) rfl rfl hl.1 rfl (lv_room (Nat.le_of_ble_eq_true rfl)) dX7_read_156 ⟨Nat.le_of_ble_eq_true rfl, Nat.le_of_ble_eq_true rfl⟩) hP hD hS hA [true, true, true, true, true, true, false, false, true, true, true, true, true, true, true, true, true, true] [_, _, _, _, _, _, _, _, _, _, _, _, _, _, _, _] [_, _] rfl [0, 1] rfl [0, 1] (fun u_119 => [_, _]) (fun _ => rfl) (hs_upnd rfl) [true, true, true, true, true, true, false, false, true, true, true, true, true, true, true, true, true, true] (fun u_119 => [_, _, _, _, _, _, _, _, _, _, _, _, _, _, _, _, _, _]) (fun _ => rfl) (fun r_117 u_119 H locs hw_118 hP hD hS => ?_)
                    refine hs_topi (aTs (s_z 2) (s_r 2) ((f + (nI (2 * x2))) + 1)) hw_118 ?_
                    refine hs_ciM (va_runV (As := [.int (aTs (s_z 2) (s_r 2) (f + (nI (2 * x2)))), .int (aTs (s_z 2) (s_r 2) ((f + (nI (2 * x2))) + 1))]) (rest := []) ⟨hx, hb, hml, hown, hts⟩ (gpf_weigh l D k _ h h_now h_trial h_images h_imageThere h_teller h_ranks h_court h_sheets h_lf h_lt n_a n_N n_J (fun j => ([wf, n_F 1, n_F 2, n_F 3, n_F 4, n_F 5, n_F 6] : List (Nat → Int32)).getD j hsz) (aTs (s_z 2) (s_r 2) (f + (nI (2 * x2)))) (aTs (s_z 2) (s_r 2) ((f + (nI (2 * x2))) + 1)) hNn ⟨hF.1, hF.2⟩ h2) (cwV 2 hts gX7_read_X7_weigh rfl rfl rfl ⟨rfl, hq_X7_weigh⟩ ⟨Nat.le_of_ble_eq_true rfl, Nat.le_of_ble_eq_true rfl⟩) (hs_preV hK hN (hs_subP (w := [_, _, _, _, _, _, _, _, _]) hP [0, 10, 11, 12, 13, 14, 15, 16, 17] rfl) (hD.sub (ws' := [_, _, _, _, _, _, _, _, _]) [0, 10, 11, 12, 13, 14, 15, 16, 17] (hs_upnd rfl) rfl) (ci := 6) (q0 := 0) rfl rfl) rfl rfl hl.1 rfl (lv_room (Nat.le_of_ble_eq_true rfl)) dX7_read_159 ⟨Nat.le_of_ble_eq_true rfl, Nat.le_of_ble_eq_true rfl⟩) hP hD hS hA [false, true, true, true, true, true, true, true, true, true, false, false, false, false, false, false, false, false] [_, _, _, _, _, _, _, _, _] [_, _, _, _, _, _, _, _, _] rfl [0, 1, 2, 3, 4, 5, 6, 7, 8] rfl [0, 1, 2, 3, 4, 5, 6, 7, 8] (fun u_122 => [_, _, _, _, _, _, _, _, _]) (fun _ => rfl) (hs_upnd rfl) [false, true, true, true, true, true, true, true, true, true, false, false, false, false, false, false, false, false] (fun u_122 => [_, _, _, _, _, _, _, _, _, _, _, _, _, _, _, _, _, _]) (fun _ => rfl) (fun r_120 u_122 H locs hw_121 hP hD hS => ?_)
                    have hw_121 : cWg (n_N 0) ((fun j => ([wf, n_F 1, n_F 2, n_F 3, n_F 4, n_F 5, n_F 6] : List (Nat → Int32)).getD j hsz) 0) (aTs (s_z 2) (s_r 2) (f + (nI (2 * x2)))) (aTs (s_z 2) (s_r 2) ((f + (nI (2 * x2))) + 1)) r_120 u_122 := hw_121
                    refine lv_pop hx hb dX7_read_162 rfl ?_
                    refine lv_iinc (v := nI (x2 + 1)) (lv' := [(8, .int (nI (x2 + 1))), (7, .int (nI wh)), (6, .int fo), (5, .ref sh2), (0, .ref h), (1, .int 2), (2, .int v), (3, .int f), (4, .int (nI nn))]) hx hb dX7_read_163 hl (k := 0) rfl (nI_add (x2) 1) (Nat.le_of_ble_eq_true rfl) rfl (fun ls hl => ?_)
                    refine lv_goto (tgt := 127) hx hb dX7_read_166 rfl ?_
                    exact ih127 (x2 + 1, u_122) (by (try dsimp only); exact ⟨by omega, (by rw [cWg_ok hw_121 (hok9 x2 (by omega)).2, hI.2]; rfl)⟩) (by (try dsimp only); omega) _ _ _ hP hD hS (lv_sub hl [0, 1, 2, 3, 4, 5, 6, 7, 8] rfl)
                · (try dsimp only); exact ⟨Nat.zero_le _, rfl⟩
              · refine lv_aload hx hb dX7_read_56 (lv_at hl 3 rfl) ?_
                refine lv_iload_n hx hb dX7_read_58 rfl (lv_at hl 6 rfl) ?_
                refine lv_iload_n hx hb dX7_read_59 rfl (lv_at hl 7 rfl) ?_
                refine lv_iconst (v := 2) hx hb dX7_read_60 hki_2 ?_
                refine lv_iload hx hb dX7_read_61 (lv_at hl 0 rfl) ?_
                refine lv_imul hx hb dX7_read_63 ?_
                refine hs_topi (nI (2 * x1)) (pk_mul (2) (x1)) ?_
                refine lv_iadd hx hb dX7_read_64 ?_
                refine hs_ciM (va_runV (As := [.int v, .int (f + (nI (2 * x1)))]) (rest := []) ⟨hx, hb, hml, hown, hts⟩ (gf_faultOfTwo l D k _ sh2 (s_row 2) (s_la 2) (s_z 2) v (f + (nI (2 * x1))) (by omega)) (cwV 2 hts gX7_read_X3_faultOfTwo rfl rfl rfl ⟨rfl, hq_X3_faultOfTwo⟩ ⟨Nat.le_of_ble_eq_true rfl, Nat.le_of_ble_eq_true rfl⟩) (hs_preV hK hN (hs_subP (w := [_]) hP [6] rfl) (hD.sub (ws' := [_]) [6] (hs_upnd rfl) rfl) (ci := 2) (q0 := 0) rfl rfl) rfl rfl hl.1 rfl (lv_room (Nat.le_of_ble_eq_true rfl)) dX7_read_65 ⟨Nat.le_of_ble_eq_true rfl, Nat.le_of_ble_eq_true rfl⟩) hP hD hS hA [true, true, true, true, true, true, false, true, true, true, true, true, true, true, true, true, true, true] [_, _, _, _, _, _, _, _, _, _, _, _, _, _, _, _, _] [_] rfl [0] rfl [0] (fun u_125 => [_]) (fun _ => rfl) (hs_upnd rfl) [true, true, true, true, true, true, false, true, true, true, true, true, true, true, true, true, true, true] (fun u_125 => [_, _, _, _, _, _, _, _, _, _, _, _, _, _, _, _, _, _]) (fun _ => rfl) (fun r_123 u_125 H locs hw_124 hP hD hS => ?_)
                refine hs_topi (fTw (s_la 2) (s_z 2) v (f + (nI (2 * x1)))) hw_124 ?_
                refine lv_istore (lv' := [(6, .int (fTw (s_la 2) (s_z 2) v (f + (nI (2 * x1))))), (8, .int (nI x1)), (7, .int (nI wh)), (5, .ref sh2), (0, .ref h), (1, .int 2), (2, .int v), (3, .int f), (4, .int (nI nn))]) hx hb dX7_read_68 hl (Nat.le_of_ble_eq_true rfl) rfl (fun ls hl => ?_)
                refine lv_iload hx hb dX7_read_70 (lv_at hl 0 rfl) ?_
                refine lv_if_ne (tgt := 118) hx hb dX7_read_72 rfl (fun c_126 => ?_) (fun c_126 => ?_)
                · refine lv_iinc (v := nI (x1 + 1)) (lv' := [(8, .int (nI (x1 + 1))), (6, .int (fTw (s_la 2) (s_z 2) v (f + (nI (2 * x1))))), (7, .int (nI wh)), (5, .ref sh2), (0, .ref h), (1, .int 2), (2, .int v), (3, .int f), (4, .int (nI nn))]) hx hb dX7_read_118 hl (k := 1) rfl (nI_add (x1) 1) (Nat.le_of_ble_eq_true rfl) rfl (fun ls hl => ?_)
                  refine lv_goto (tgt := 44) hx hb dX7_read_121 rfl ?_
                  exact ih44 (fTw (s_la 2) (s_z 2) v (f + (nI (2 * x1))), wh, x1 + 1) (by (try dsimp only); exact ⟨by omega, by omega, fun z9 => absurd z9 c_126, fun _ => ⟨by have h9 := (hI.2.2.1 c_112).1; omega, fun j hj => (hI.2.2.1 c_112).2 j (by have h9 := (hI.2.2.1 c_112).1; omega), by rw [(hI.2.2.1 c_112).1]; rfl⟩⟩) (by (try dsimp only); omega) _ _ _ hP hD hS (lv_sub hl [0, 2, 1, 3, 4, 5, 6, 7, 8] rfl)
                · refine lv_aload_n hx hb dX7_read_75 rfl (lv_at hl 4 rfl) ?_
                  refine va_get (D := D) (ci := 6) (v := .ref h_now) (C := RX7) (T := TX7) (N := 10) hx hb hts hiX7 hown hK hP 0 rfl rfl 0 (Nat.le_of_ble_eq_true rfl) fl10 (fun _ h9 => h9) rfl dX7_read_76 ?_
                  refine lv_aload hx hb dX7_read_79 (lv_at hl 3 rfl) ?_
                  refine lv_iload_n hx hb dX7_read_81 rfl (lv_at hl 7 rfl) ?_
                  refine lv_iconst (v := 2) hx hb dX7_read_82 hki_2 ?_
                  refine lv_iload hx hb dX7_read_83 (lv_at hl 1 rfl) ?_
                  refine lv_imul hx hb dX7_read_85 ?_
                  refine hs_topi (nI (2 * x1)) (pk_mul (2) (x1)) ?_
                  refine lv_iadd hx hb dX7_read_86 ?_
                  refine hs_ciM (va_runV (As := [.int (f + (nI (2 * x1)))]) (rest := [.ref h_now]) ⟨hx, hb, hml, hown, hts⟩ (gf_at l D k _ sh2 (s_row 2) (s_la 2) (s_z 2) (f + (nI (2 * x1))) (s_r 2) (by omega)) (cwV 1 hts gX7_read_X3_at rfl rfl rfl ⟨rfl, hq_X3_at⟩ ⟨Nat.le_of_ble_eq_true rfl, Nat.le_of_ble_eq_true rfl⟩) (hs_preV hK hN (hs_subP (w := [_, _]) hP [6, 7] rfl) (hD.sub (ws' := [_, _]) [6, 7] (hs_upnd rfl) rfl) (ci := 2) (q0 := 0) rfl rfl) rfl rfl hl.1 rfl (lv_room (Nat.le_of_ble_eq_true rfl)) dX7_read_87 ⟨Nat.le_of_ble_eq_true rfl, Nat.le_of_ble_eq_true rfl⟩) hP hD hS hA [true, true, true, true, true, true, false, false, true, true, true, true, true, true, true, true, true, true] [_, _, _, _, _, _, _, _, _, _, _, _, _, _, _, _] [_, _] rfl [0, 1] rfl [0, 1] (fun u_129 => [_, _]) (fun _ => rfl) (hs_upnd rfl) [true, true, true, true, true, true, false, false, true, true, true, true, true, true, true, true, true, true] (fun u_129 => [_, _, _, _, _, _, _, _, _, _, _, _, _, _, _, _, _, _]) (fun _ => rfl) (fun r_127 u_129 H locs hw_128 hP hD hS => ?_)
                  refine hs_topi (aTs (s_z 2) (s_r 2) (f + (nI (2 * x1)))) hw_128 ?_
                  refine lv_aload hx hb dX7_read_90 (lv_at hl 3 rfl) ?_
                  refine lv_iload_n hx hb dX7_read_92 rfl (lv_at hl 7 rfl) ?_
                  refine lv_iconst (v := 2) hx hb dX7_read_93 hki_2 ?_
                  refine lv_iload hx hb dX7_read_94 (lv_at hl 1 rfl) ?_
                  refine lv_imul hx hb dX7_read_96 ?_
                  refine hs_topi (nI (2 * x1)) (pk_mul (2) (x1)) ?_
                  refine lv_iadd hx hb dX7_read_97 ?_
                  refine lv_iconst (v := 1) hx hb dX7_read_98 hki_1 ?_
                  refine lv_iadd hx hb dX7_read_99 ?_
                  refine hs_ciM (va_runV (As := [.int ((f + (nI (2 * x1))) + 1)]) (rest := [.int (aTs (s_z 2) (s_r 2) (f + (nI (2 * x1)))), .ref h_now]) ⟨hx, hb, hml, hown, hts⟩ (gf_at l D k _ sh2 (s_row 2) (s_la 2) (s_z 2) ((f + (nI (2 * x1))) + 1) (s_r 2) (by omega)) (cwV 1 hts gX7_read_X3_at rfl rfl rfl ⟨rfl, hq_X3_at⟩ ⟨Nat.le_of_ble_eq_true rfl, Nat.le_of_ble_eq_true rfl⟩) (hs_preV hK hN (hs_subP (w := [_, _]) hP [6, 7] rfl) (hD.sub (ws' := [_, _]) [6, 7] (hs_upnd rfl) rfl) (ci := 2) (q0 := 0) rfl rfl) rfl rfl hl.1 rfl (lv_room (Nat.le_of_ble_eq_true rfl)) dX7_read_100 ⟨Nat.le_of_ble_eq_true rfl, Nat.le_of_ble_eq_true rfl⟩) hP hD hS hA [true, true, true, true, true, true, false, false, true, true, true, true, true, true, true, true, true, true] [_, _, _, _, _, _, _, _, _, _, _, _, _, _, _, _] [_, _] rfl [0, 1] rfl [0, 1] (fun u_132 => [_, _]) (fun _ => rfl) (hs_upnd rfl) [true, true, true, true, true, true, false, false, true, true, true, true, true, true, true, true, true, true] (fun u_132 => [_, _, _, _, _, _, _, _, _, _, _, _, _, _, _, _, _, _]) (fun _ => rfl) (fun r_130 u_132 H locs hw_131 hP hD hS => ?_)
                  refine hs_topi (aTs (s_z 2) (s_r 2) ((f + (nI (2 * x1))) + 1)) hw_131 ?_
                  refine hs_ciM (va_runV (As := [.int (aTs (s_z 2) (s_r 2) (f + (nI (2 * x1)))), .int (aTs (s_z 2) (s_r 2) ((f + (nI (2 * x1))) + 1))]) (rest := []) ⟨hx, hb, hml, hown, hts⟩ (g_canWeigh l D k _ h_now n_a n_N n_J (aTs (s_z 2) (s_r 2) (f + (nI (2 * x1)))) (aTs (s_z 2) (s_r 2) ((f + (nI (2 * x1))) + 1)) (by first | assumption | exact ⟨by first | omega | (dsimp; omega), by first | omega | (dsimp; omega), ⟨by first | omega | (dsimp; omega), by first | omega | (dsimp; omega)⟩, by first | omega | (dsimp; omega), by first | omega | (dsimp; omega)⟩)) (cwV 2 hts gX7_read_X6_canWeigh rfl rfl rfl ⟨rfl, hq_X6_canWeigh⟩ ⟨Nat.le_of_ble_eq_true rfl, Nat.le_of_ble_eq_true rfl⟩) (hs_preV hK hN (hs_subP (w := [_]) hP [10] rfl) (hD.sub (ws' := [_]) [10] (hs_upnd rfl) rfl) (ci := 5) (q0 := 0) rfl rfl) rfl rfl hl.1 rfl (lv_room (Nat.le_of_ble_eq_true rfl)) dX7_read_103 ⟨Nat.le_of_ble_eq_true rfl, Nat.le_of_ble_eq_true rfl⟩) hP hD hS hA [true, true, true, true, true, true, true, true, true, true, false, true, true, true, true, true, true, true] [_, _, _, _, _, _, _, _, _, _, _, _, _, _, _, _, _] [_] rfl [0] rfl [0] (fun u_135 => [_]) (fun _ => rfl) (hs_upnd rfl) [true, true, true, true, true, true, true, true, true, true, false, true, true, true, true, true, true, true] (fun u_135 => [_, _, _, _, _, _, _, _, _, _, _, _, _, _, _, _, _, _]) (fun _ => rfl) (fun r_133 u_135 H locs hw_134 hP hD hS => ?_)
                  refine hs_topi (hsb (hslt (aTs (s_z 2) (s_r 2) (f + (nI (2 * x1)))) (n_N 0) && hsin (aTs (s_z 2) (s_r 2) ((f + (nI (2 * x1))) + 1)) 0 9)) hw_134 ?_
                  refine lv_if_ne (tgt := 115) hx hb dX7_read_106 rfl (fun c_136 => ?_) (fun c_136 => ?_)
                  · refine lv_iinc (v := nI (wh + 1)) (lv' := [(7, .int (nI (wh + 1))), (6, .int (fTw (s_la 2) (s_z 2) v (f + (nI (2 * x1))))), (8, .int (nI x1)), (5, .ref sh2), (0, .ref h), (1, .int 2), (2, .int v), (3, .int f), (4, .int (nI nn))]) hx hb dX7_read_115 hl (k := 2) rfl (nI_add (wh) 1) (Nat.le_of_ble_eq_true rfl) rfl (fun ls hl => ?_)
                    refine lv_iinc (v := nI (x1 + 1)) (lv' := [(8, .int (nI (x1 + 1))), (7, .int (nI (wh + 1))), (6, .int (fTw (s_la 2) (s_z 2) v (f + (nI (2 * x1))))), (5, .ref sh2), (0, .ref h), (1, .int 2), (2, .int v), (3, .int f), (4, .int (nI nn))]) hx hb dX7_read_118 hl (k := 2) rfl (nI_add (x1) 1) (Nat.le_of_ble_eq_true rfl) rfl (fun ls hl => ?_)
                    refine lv_goto (tgt := 44) hx hb dX7_read_121 rfl ?_
                    exact ih44 (fTw (s_la 2) (s_z 2) v (f + (nI (2 * x1))), wh + 1, x1 + 1) (by (try dsimp only); exact ⟨by omega, by omega, fun _ => ⟨by have h9 := (hI.2.2.1 c_112).1; omega, fun j hj => if e9 : j = x1 then (by subst e9; exact ⟨c_126, hs_nb c_136⟩) else (hI.2.2.1 c_112).2 j (by omega)⟩, fun z9 => absurd c_126 z9⟩) (by (try dsimp only); omega) _ _ _ hP hD hS (lv_sub hl [0, 1, 2, 3, 4, 5, 6, 7, 8] rfl)
                  · refine lv_bipush (v := (-20)) hx hb dX7_read_109 hkb_m20 ?_
                    refine lv_iload hx hb dX7_read_111 (lv_at hl 1 rfl) ?_
                    refine lv_isub hx hb dX7_read_113 ?_
                    exact hs_iret hx hb hr hlocks hK hP hD hS (n_F 0, h_lt) [0, 1, 2, 3, 4, 5, 6, 7, 8, 9, 10, 11, 12, 13, 14, 15, 16, 17] rfl (hs_upnd rfl) dX7_read_114 (Or.inr ⟨2, nn, by decide, rfl, by omega, rfl, hs_nb c_96, x1, by omega, (hI.2.2.1 c_112).2, Or.inl ⟨by omega, c_126, hs_n0 c_136, rfl, rfl⟩⟩)
          · (try dsimp only); exact ⟨Nat.zero_le _, Nat.le_refl _, fun _ => ⟨rfl, fun j hj => absurd hj (Nat.not_lt_zero j)⟩, fun z9 => absurd rfl z9⟩
        · refine lv_iconst (v := (-1)) hx hb dX7_read_25 hki_m1 ?_
          exact hs_iret hx hb hr hlocks hK hP hD hS (n_F 0, h_lt) [0, 1, 2, 3, 4, 5, 6, 7, 8, 9, 10, 11, 12, 13, 14, 15, 16, 17] rfl (hs_upnd rfl) dX7_read_26 (Or.inl ⟨hs_rbad (Or.inr (Or.inr (hs_n0 c_100))), rfl, rfl⟩)
    · refine lv_iload_n hx hb dX7_read_7 rfl (lv_at hl 2 rfl) ?_
      refine hs_pi (va_runS (As := [.int v]) (rest := []) ⟨hx, hb, hml, hown, hts⟩ (g_isLane l D k _ v) (va_cwS 1 hts gX7_read_X3_isLane rfl rfl rfl hq_X3_isLane ⟨Nat.le_of_ble_eq_true rfl, Nat.le_of_ble_eq_true rfl⟩) (hs_preS hK hN (hs_subP (w := []) hP [] rfl) (hD.sub (ws' := []) [] rfl rfl)) rfl rfl hl.1 rfl (lv_room (Nat.le_of_ble_eq_true rfl)) dX7_read_8 ⟨Nat.le_of_ble_eq_true rfl, Nat.le_of_ble_eq_true rfl⟩) hP hD hS hA (fun r_137 u_139 H locs hw_138 hP hS => ?_)
      refine hs_topi (hsb (hsin v 0 2)) hw_138 ?_
      refine lv_if_eq (tgt := 25) hx hb dX7_read_11 rfl (fun c_140 => ?_) (fun c_140 => ?_)
      · refine lv_iconst (v := (-1)) hx hb dX7_read_25 hki_m1 ?_
        exact hs_iret hx hb hr hlocks hK hP hD hS (n_F 0, h_lt) [0, 1, 2, 3, 4, 5, 6, 7, 8, 9, 10, 11, 12, 13, 14, 15, 16, 17] rfl (hs_upnd rfl) dX7_read_26 (Or.inl ⟨hs_rbad (Or.inr (Or.inl (hs_n0 c_140))), rfl, rfl⟩)
      · refine lv_iload hx hb dX7_read_14 (lv_at hl 4 rfl) ?_
        refine lv_iconst (v := 0) hx hb dX7_read_16 hki_0 ?_
        refine lv_bipush (v := 20) hx hb dX7_read_17 hkb_20 ?_
        refine hs_pi (va_runS (As := [.int n, .int 0, .int 20]) (rest := []) ⟨hx, hb, hml, hown, hts⟩ (g_within l D k _ n 0 20) (va_cwS 3 hts gX7_read_X7_within rfl rfl rfl hq_X7_within ⟨Nat.le_of_ble_eq_true rfl, Nat.le_of_ble_eq_true rfl⟩) (hs_preS hK hN (hs_subP (w := []) hP [] rfl) (hD.sub (ws' := []) [] rfl rfl)) rfl rfl hl.1 rfl (lv_room (Nat.le_of_ble_eq_true rfl)) dX7_read_19 ⟨Nat.le_of_ble_eq_true rfl, Nat.le_of_ble_eq_true rfl⟩) hP hD hS hA (fun r_141 u_143 H locs hw_142 hP hS => ?_)
        refine hs_topi (hsb (hsin n 0 20)) hw_142 ?_
        refine lv_if_ne (tgt := 27) hx hb dX7_read_22 rfl (fun c_144 => ?_) (fun c_144 => ?_)
        · obtain ⟨nn, hnn, hnnb, rfl⟩ := hs_rng (lo := 0) (hi := 20) (by omega) (by omega) (hs_nb c_144)
          refine lv_aload_n hx hb dX7_read_27 rfl (lv_at hl 0 rfl) ?_
          refine va_get (D := D) (ci := 6) (v := .ref h_sheets) (C := RX7) (T := TX7) (N := 10) hx hb hts hiX7 hown hK hP 0 rfl rfl 7 (Nat.le_of_ble_eq_true rfl) fl50 (fun _ h9 => h9) rfl dX7_read_28 ?_
          refine lv_iload_n hx hb dX7_read_31 rfl (lv_at hl 1 rfl) ?_
          refine va_aldq hx hb hK hP 1 3 rfl rfl (hs_in (by decide)) dX7_read_32 ?_
          refine W.eq (g2 := F0 m 33 ls (.ref sh3 :: [])) rfl ?_
          refine lv_astore (lv' := [(5, .ref sh3), (0, .ref h), (1, .int 3), (2, .int v), (3, .int f), (4, .int (nI nn))]) hx hb dX7_read_33 hl (Nat.le_of_ble_eq_true rfl) rfl (fun ls hl => ?_)
          refine lv_iconst (v := 0) hx hb dX7_read_35 hki_0 ?_
          refine lv_istore (lv' := [(6, .int 0), (5, .ref sh3), (0, .ref h), (1, .int 3), (2, .int v), (3, .int f), (4, .int (nI nn))]) hx hb dX7_read_36 hl (Nat.le_of_ble_eq_true rfl) rfl (fun ls hl => ?_)
          refine lv_iconst (v := 0) hx hb dX7_read_38 hki_0 ?_
          refine lv_istore (lv' := [(7, .int 0), (6, .int 0), (5, .ref sh3), (0, .ref h), (1, .int 3), (2, .int v), (3, .int f), (4, .int (nI nn))]) hx hb dX7_read_39 hl (Nat.le_of_ble_eq_true rfl) rfl (fun ls hl => ?_)
          refine lv_iconst (v := 0) hx hb dX7_read_41 hki_0 ?_
          refine lv_istore (lv' := [(8, .int 0), (7, .int 0), (6, .int 0), (5, .ref sh3), (0, .ref h), (1, .int 3), (2, .int v), (3, .int f), (4, .int (nI nn))]) hx hb dX7_read_42 hl (Nat.le_of_ble_eq_true rfl) rfl (fun ls hl => ?_)
          refine hs_while (σ := Int32 × Nat × Nat) (fun x => x.2.2 ≤ nn ∧ x.2.1 ≤ x.2.2 ∧ (x.1 = 0 → (x.2.1 = x.2.2 ∧ ∀ j, j < x.2.2 → okR (n_N 0) (s_la 3) (s_z 3) (s_r 3) v f j)) ∧ (¬ x.1 = 0 → (x.2.1 + 1 = x.2.2 ∧ (∀ j, j < x.2.1 → okR (n_N 0) (s_la 3) (s_z 3) (s_r 3) v f j) ∧ x.1 = fTw (s_la 3) (s_z 3) v (pRd f x.2.1)))) (fun x => nn - x.2.2) (fun x => [oq6 h h_now h_trial h_images h_imageThere h_teller h_ranks h_court h_sheets h_lf h_lt, (h_sheets, .inl (k 3, 4, .inr (.inr (.inr (.inr (va_up (va_up (va_up (va_up (fun _ => none) 0 (some sh0)) 1 (some sh1)) 2 (some sh2)) 3 (some sh3))))))), oq2 sh0 (s_row 0) (s_la 0) (nI (s_z 0)), oqI k (s_row 0) 40 (s_r 0), oq2 sh1 (s_row 1) (s_la 1) (nI (s_z 1)), oqI k (s_row 1) 40 (s_r 1), oq2 sh2 (s_row 2) (s_la 2) (nI (s_z 2)), oqI k (s_row 2) 40 (s_r 2), oq2 sh3 (s_row 3) (s_la 3) (nI (s_z 3)), oqI k (s_row 3) 40 (s_r 3), oqT h_now n_a n_N n_J, oqF0 k n_a n_F, oqF1 k n_a n_F, oqF2 k n_a n_F, oqF3 k n_a n_F, oqF4 k n_a n_F, oqF5 k n_a n_F, oqF6 k n_a n_F]) (fun x => [(8, .int (nI (x.2.2))), (7, .int (nI (x.2.1))), (6, .int (x.1)), (5, .ref sh3), (0, .ref h), (1, .int 3), (2, .int v), (3, .int f), (4, .int (nI nn))]) ?_ (0, 0, 0) ?_ hP hD hS hl
          · intro x hI ih44 H locs ls hP hD hS hl
            obtain ⟨fo, wh, x1⟩ := x
            try dsimp only at hI
            have hP : va_P D vwCl [_, _, _, _, _, _, _, _, _, _, _, _, _, _, _, _, _, _] H := hP
            have hD : va_D A [_, _, _, _, _, _, _, _, _, _, _, _, _, _, _, _, _, _] := hD
            have hl : lv_has ls 9 [(8, .int (nI x1)), (7, .int (nI wh)), (6, .int fo), (5, .ref sh3), (0, .ref h), (1, .int 3), (2, .int v), (3, .int f), (4, .int (nI nn))] := hl
            refine lv_iload hx hb dX7_read_44 (lv_at hl 0 rfl) ?_
            refine lv_iload hx hb dX7_read_46 (lv_at hl 8 rfl) ?_
            refine lv_icmp_ge (tgt := 124) hx hb dX7_read_48 rfl (fun c_145 => ?_) (fun c_145 => ?_)
            · have nc_145 : nn ≤ x1 := (nI_leI (a := nn) (b := x1) (by omega) (by omega)).mp c_145
              have hI44 := hI
              have hok9 : ∀ j, j < wh → okR (n_N 0) (s_la 3) (s_z 3) (s_r 3) v f j := fun j hj => if e9 : fo = 0 then (hI.2.2.1 e9).2 j (by have h9 := (hI.2.2.1 e9).1; omega) else (hI.2.2.2 e9).2.1 j hj
              refine lv_iconst (v := 0) hx hb dX7_read_124 hki_0 ?_
              refine lv_istore (lv' := [(8, .int 0), (7, .int (nI wh)), (6, .int fo), (5, .ref sh3), (0, .ref h), (1, .int 3), (2, .int v), (3, .int f), (4, .int (nI nn))]) hx hb dX7_read_125 hl (Nat.le_of_ble_eq_true rfl) rfl (fun ls hl => ?_)
              refine hs_while (σ := Nat × (Nat → Int32)) (fun x => x.1 ≤ wh ∧ x.2 = wtR (s_z 3) (s_r 3) f (n_F 0) x.1) (fun x => wh - x.1) (fun x => [oq6 h h_now h_trial h_images h_imageThere h_teller h_ranks h_court h_sheets h_lf h_lt, (h_sheets, .inl (k 3, 4, .inr (.inr (.inr (.inr (va_up (va_up (va_up (va_up (fun _ => none) 0 (some sh0)) 1 (some sh1)) 2 (some sh2)) 3 (some sh3))))))), oq2 sh0 (s_row 0) (s_la 0) (nI (s_z 0)), oqI k (s_row 0) 40 (s_r 0), oq2 sh1 (s_row 1) (s_la 1) (nI (s_z 1)), oqI k (s_row 1) 40 (s_r 1), oq2 sh2 (s_row 2) (s_la 2) (nI (s_z 2)), oqI k (s_row 2) 40 (s_r 2), oq2 sh3 (s_row 3) (s_la 3) (nI (s_z 3)), oqI k (s_row 3) 40 (s_r 3), oqT h_now n_a n_N n_J, oqI k (n_a 0) 8 ((x.2)), oqF1 k n_a n_F, oqF2 k n_a n_F, oqF3 k n_a n_F, oqF4 k n_a n_F, oqF5 k n_a n_F, oqF6 k n_a n_F]) (fun x => [(8, .int (nI (x.1))), (7, .int (nI wh)), (6, .int fo), (5, .ref sh3), (0, .ref h), (1, .int 3), (2, .int v), (3, .int f), (4, .int (nI nn))]) ?_ (0, n_F 0) ?_ hP hD hS hl
              · intro x hI ih127 H locs ls hP hD hS hl
                obtain ⟨x2, wf⟩ := x
                try dsimp only at hI
                have hP : va_P D vwCl [_, _, _, _, _, _, _, _, _, _, _, oqI k (n_a 0) 8 (wf), _, _, _, _, _, _] H := hP
                have hD : va_D A [_, _, _, _, _, _, _, _, _, _, _, oqI k (n_a 0) 8 (wf), _, _, _, _, _, _] := hD
                have hl : lv_has ls 9 [(8, .int (nI x2)), (7, .int (nI wh)), (6, .int fo), (5, .ref sh3), (0, .ref h), (1, .int 3), (2, .int v), (3, .int f), (4, .int (nI nn))] := hl
                refine lv_iload hx hb dX7_read_127 (lv_at hl 0 rfl) ?_
                refine lv_iload hx hb dX7_read_129 (lv_at hl 1 rfl) ?_
                refine lv_icmp_ge (tgt := 169) hx hb dX7_read_131 rfl (fun c_146 => ?_) (fun c_146 => ?_)
                · have nc_146 : wh ≤ x2 := (nI_leI (a := wh) (b := x2) (by omega) (by omega)).mp c_146
                  refine lv_aload_n hx hb dX7_read_169 rfl (lv_at hl 4 rfl) ?_
                  refine lv_iload hx hb dX7_read_170 (lv_at hl 2 rfl) ?_
                  refine va_put (D := D) (ci := 6) (v := .int fo) (ty := .int) (C := RX7) (T := TX7) (N := 10) hx hb hts hiX7 tyX7 tyX7_ok nmX7 hown hK hP hD hS 0 rfl rfl 9 (Nat.le_of_ble_eq_true rfl) fl283 (fun _ h9 => h9) rfl (by decide +kernel) rfl rfl (Nat.le_of_ble_eq_true rfl) dX7_read_172 (fun H locs hP hD hS => ?_)
                  have hP : va_P D vwCl [oq6 h h_now h_trial h_images h_imageThere h_teller h_ranks h_court h_sheets h_lf fo, _, _, _, _, _, _, _, _, _, _, _, _, _, _, _, _, _] H := hP
                  have hD : va_D A [oq6 h h_now h_trial h_images h_imageThere h_teller h_ranks h_court h_sheets h_lf fo, _, _, _, _, _, _, _, _, _, _, _, _, _, _, _, _, _] := hD
                  refine lv_iload hx hb dX7_read_175 (lv_at hl 1 rfl) ?_
                  exact hs_iret hx hb hr hlocks hK hP hD hS (wf, fo) [0, 1, 2, 3, 4, 5, 6, 7, 8, 9, 10, 11, 12, 13, 14, 15, 16, 17] rfl (hs_upnd rfl) dX7_read_177 (Or.inr ⟨3, nn, by decide, rfl, by omega, rfl, hs_nb c_140, (if e9 : fo = 0 then (by have h9 := (hI44.2.2.1 e9).1; have hx9 := hI44.1; have h2 : wh = nn := (by first | omega | exact absurd e9 (by assumption)); exact ⟨wh, by omega, hok9, Or.inr (Or.inl ⟨h2, rfl, by (try dsimp only); rw [hI.2, show x2 = wh by omega, e9]⟩)⟩) else (by have h9 := hI44.2.2.2 e9; have hx9 := hI44.1; exact ⟨wh, by omega, hok9, Or.inr (Or.inr ⟨by omega, by rw [← h9.2.2]; exact e9, rfl, by (try dsimp only); rw [hI.2, show x2 = wh by omega, ← h9.2.2]⟩)⟩))⟩)
                · have nc_146 : ¬ wh ≤ x2 := fun hq9 => c_146 ((nI_leI (a := wh) (b := x2) (by omega) (by omega)).mpr hq9)
                  refine lv_aload_n hx hb dX7_read_134 rfl (lv_at hl 4 rfl) ?_
                  refine lv_aload hx hb dX7_read_135 (lv_at hl 3 rfl) ?_
                  refine lv_iload_n hx hb dX7_read_137 rfl (lv_at hl 7 rfl) ?_
                  refine lv_iconst (v := 2) hx hb dX7_read_138 hki_2 ?_
                  refine lv_iload hx hb dX7_read_139 (lv_at hl 0 rfl) ?_
                  refine lv_imul hx hb dX7_read_141 ?_
                  refine hs_topi (nI (2 * x2)) (pk_mul (2) (x2)) ?_
                  refine lv_iadd hx hb dX7_read_142 ?_
                  refine hs_ciM (va_runV (As := [.int (f + (nI (2 * x2)))]) (rest := [.ref h]) ⟨hx, hb, hml, hown, hts⟩ (gf_at l D k _ sh3 (s_row 3) (s_la 3) (s_z 3) (f + (nI (2 * x2))) (s_r 3) (by omega)) (cwV 1 hts gX7_read_X3_at rfl rfl rfl ⟨rfl, hq_X3_at⟩ ⟨Nat.le_of_ble_eq_true rfl, Nat.le_of_ble_eq_true rfl⟩) (hs_preV hK hN (hs_subP (w := [_, _]) hP [8, 9] rfl) (hD.sub (ws' := [_, _]) [8, 9] (hs_upnd rfl) rfl) (ci := 2) (q0 := 0) rfl rfl) rfl rfl hl.1 rfl (lv_room (Nat.le_of_ble_eq_true rfl)) dX7_read_143 ⟨Nat.le_of_ble_eq_true rfl, Nat.le_of_ble_eq_true rfl⟩) hP hD hS hA [true, true, true, true, true, true, true, true, false, false, true, true, true, true, true, true, true, true] [_, _, _, _, _, _, _, _, _, _, _, _, _, _, _, _] [_, _] rfl [0, 1] rfl [0, 1] (fun u_149 => [_, _]) (fun _ => rfl) (hs_upnd rfl) [true, true, true, true, true, true, true, true, false, false, true, true, true, true, true, true, true, true] (fun u_149 => [_, _, _, _, _, _, _, _, _, _, _, _, _, _, _, _, _, _]) (fun _ => rfl) (fun r_147 u_149 H locs hw_148 hP hD hS => ?_)
                  refine hs_topi (aTs (s_z 3) (s_r 3) (f + (nI (2 * x2)))) hw_148 ?_
                  refine lv_aload hx hb dX7_read_146 (lv_at hl 3 rfl) ?_
                  refine lv_iload_n hx hb dX7_read_148 rfl (lv_at hl 7 rfl) ?_
                  refine lv_iconst (v := 2) hx hb dX7_read_149 hki_2 ?_
                  refine lv_iload hx hb dX7_read_150 (lv_at hl 0 rfl) ?_
                  refine lv_imul hx hb dX7_read_152 ?_
                  refine hs_topi (nI (2 * x2)) (pk_mul (2) (x2)) ?_
                  refine lv_iadd hx hb dX7_read_153 ?_
                  refine lv_iconst (v := 1) hx hb dX7_read_154 hki_1 ?_
                  refine lv_iadd hx hb dX7_read_155 ?_
                  refine hs_ciM (va_runV (As := [.int ((f + (nI (2 * x2))) + 1)]) (rest := [.int (aTs (s_z 3) (s_r 3) (f + (nI (2 * x2)))), .ref h]) ⟨hx, hb, hml, hown, hts⟩ (gf_at l D k _ sh3 (s_row 3) (s_la 3) (s_z 3) ((f + (nI (2 * x2))) + 1) (s_r 3) (by omega)) (cwV 1 hts gX7_read_X3_at rfl rfl rfl ⟨rfl, hq_X3_at⟩ ⟨Nat.le_of_ble_eq_true rfl, Nat.le_of_ble_eq_true rfl⟩) (hs_preV hK hN (hs_subP (w := [_, _]) hP [8, 9] rfl) (hD.sub (ws' := [_, _]) [8, 9] (hs_upnd rfl) rfl) (ci := 2) (q0 := 0) rfl rfl) rfl rfl hl.1 rfl (lv_room (Nat.le_of_ble_eq_true rfl)) dX7_read_156 ⟨Nat.le_of_ble_eq_true rfl, Nat.le_of_ble_eq_true rfl⟩) hP hD hS hA [true, true, true, true, true, true, true, true, false, false, true, true, true, true, true, true, true, true] [_, _, _, _, _, _, _, _, _, _, _, _, _, _, _, _] [_, _] rfl [0, 1] rfl [0, 1] (fun u_152 => [_, _]) (fun _ => rfl) (hs_upnd rfl) [true, true, true, true, true, true, true, true, false, false, true, true, true, true, true, true, true, true] (fun u_152 => [_, _, _, _, _, _, _, _, _, _, _, _, _, _, _, _, _, _]) (fun _ => rfl) (fun r_150 u_152 H locs hw_151 hP hD hS => ?_)
                  refine hs_topi (aTs (s_z 3) (s_r 3) ((f + (nI (2 * x2))) + 1)) hw_151 ?_
                  refine hs_ciM (va_runV (As := [.int (aTs (s_z 3) (s_r 3) (f + (nI (2 * x2)))), .int (aTs (s_z 3) (s_r 3) ((f + (nI (2 * x2))) + 1))]) (rest := []) ⟨hx, hb, hml, hown, hts⟩ (gpf_weigh l D k _ h h_now h_trial h_images h_imageThere h_teller h_ranks h_court h_sheets h_lf h_lt n_a n_N n_J (fun j => ([wf, n_F 1, n_F 2, n_F 3, n_F 4, n_F 5, n_F 6] : List (Nat → Int32)).getD j hsz) (aTs (s_z 3) (s_r 3) (f + (nI (2 * x2)))) (aTs (s_z 3) (s_r 3) ((f + (nI (2 * x2))) + 1)) hNn ⟨hF.1, hF.2⟩ h2) (cwV 2 hts gX7_read_X7_weigh rfl rfl rfl ⟨rfl, hq_X7_weigh⟩ ⟨Nat.le_of_ble_eq_true rfl, Nat.le_of_ble_eq_true rfl⟩) (hs_preV hK hN (hs_subP (w := [_, _, _, _, _, _, _, _, _]) hP [0, 10, 11, 12, 13, 14, 15, 16, 17] rfl) (hD.sub (ws' := [_, _, _, _, _, _, _, _, _]) [0, 10, 11, 12, 13, 14, 15, 16, 17] (hs_upnd rfl) rfl) (ci := 6) (q0 := 0) rfl rfl) rfl rfl hl.1 rfl (lv_room (Nat.le_of_ble_eq_true rfl)) dX7_read_159 ⟨Nat.le_of_ble_eq_true rfl, Nat.le_of_ble_eq_true rfl⟩) hP hD hS hA [false, true, true, true, true, true, true, true, true, true, false, false, false, false, false, false, false, false] [_, _, _, _, _, _, _, _, _] [_, _, _, _, _, _, _, _, _] rfl [0, 1, 2, 3, 4, 5, 6, 7, 8] rfl [0, 1, 2, 3, 4, 5, 6, 7, 8] (fun u_155 => [_, _, _, _, _, _, _, _, _]) (fun _ => rfl) (hs_upnd rfl) [false, true, true, true, true, true, true, true, true, true, false, false, false, false, false, false, false, false] (fun u_155 => [_, _, _, _, _, _, _, _, _, _, _, _, _, _, _, _, _, _]) (fun _ => rfl) (fun r_153 u_155 H locs hw_154 hP hD hS => ?_)
                  have hw_154 : cWg (n_N 0) ((fun j => ([wf, n_F 1, n_F 2, n_F 3, n_F 4, n_F 5, n_F 6] : List (Nat → Int32)).getD j hsz) 0) (aTs (s_z 3) (s_r 3) (f + (nI (2 * x2)))) (aTs (s_z 3) (s_r 3) ((f + (nI (2 * x2))) + 1)) r_153 u_155 := hw_154
                  refine lv_pop hx hb dX7_read_162 rfl ?_
                  refine lv_iinc (v := nI (x2 + 1)) (lv' := [(8, .int (nI (x2 + 1))), (7, .int (nI wh)), (6, .int fo), (5, .ref sh3), (0, .ref h), (1, .int 3), (2, .int v), (3, .int f), (4, .int (nI nn))]) hx hb dX7_read_163 hl (k := 0) rfl (nI_add (x2) 1) (Nat.le_of_ble_eq_true rfl) rfl (fun ls hl => ?_)
                  refine lv_goto (tgt := 127) hx hb dX7_read_166 rfl ?_
                  exact ih127 (x2 + 1, u_155) (by (try dsimp only); exact ⟨by omega, (by rw [cWg_ok hw_154 (hok9 x2 (by omega)).2, hI.2]; rfl)⟩) (by (try dsimp only); omega) _ _ _ hP hD hS (lv_sub hl [0, 1, 2, 3, 4, 5, 6, 7, 8] rfl)
              · (try dsimp only); exact ⟨Nat.zero_le _, rfl⟩
            · have nc_145 : ¬ nn ≤ x1 := fun hq9 => c_145 ((nI_leI (a := nn) (b := x1) (by omega) (by omega)).mpr hq9)
              refine lv_iload hx hb dX7_read_51 (lv_at hl 2 rfl) ?_
              refine lv_if_ne (tgt := 124) hx hb dX7_read_53 rfl (fun c_156 => ?_) (fun c_156 => ?_)
              · have hI44 := hI
                have hok9 : ∀ j, j < wh → okR (n_N 0) (s_la 3) (s_z 3) (s_r 3) v f j := fun j hj => if e9 : fo = 0 then (hI.2.2.1 e9).2 j (by have h9 := (hI.2.2.1 e9).1; omega) else (hI.2.2.2 e9).2.1 j hj
                refine lv_iconst (v := 0) hx hb dX7_read_124 hki_0 ?_
                refine lv_istore (lv' := [(8, .int 0), (7, .int (nI wh)), (6, .int fo), (5, .ref sh3), (0, .ref h), (1, .int 3), (2, .int v), (3, .int f), (4, .int (nI nn))]) hx hb dX7_read_125 hl (Nat.le_of_ble_eq_true rfl) rfl (fun ls hl => ?_)
                refine hs_while (σ := Nat × (Nat → Int32)) (fun x => x.1 ≤ wh ∧ x.2 = wtR (s_z 3) (s_r 3) f (n_F 0) x.1) (fun x => wh - x.1) (fun x => [oq6 h h_now h_trial h_images h_imageThere h_teller h_ranks h_court h_sheets h_lf h_lt, (h_sheets, .inl (k 3, 4, .inr (.inr (.inr (.inr (va_up (va_up (va_up (va_up (fun _ => none) 0 (some sh0)) 1 (some sh1)) 2 (some sh2)) 3 (some sh3))))))), oq2 sh0 (s_row 0) (s_la 0) (nI (s_z 0)), oqI k (s_row 0) 40 (s_r 0), oq2 sh1 (s_row 1) (s_la 1) (nI (s_z 1)), oqI k (s_row 1) 40 (s_r 1), oq2 sh2 (s_row 2) (s_la 2) (nI (s_z 2)), oqI k (s_row 2) 40 (s_r 2), oq2 sh3 (s_row 3) (s_la 3) (nI (s_z 3)), oqI k (s_row 3) 40 (s_r 3), oqT h_now n_a n_N n_J, oqI k (n_a 0) 8 ((x.2)), oqF1 k n_a n_F, oqF2 k n_a n_F, oqF3 k n_a n_F, oqF4 k n_a n_F, oqF5 k n_a n_F, oqF6 k n_a n_F]) (fun x => [(8, .int (nI (x.1))), (7, .int (nI wh)), (6, .int fo), (5, .ref sh3), (0, .ref h), (1, .int 3), (2, .int v), (3, .int f), (4, .int (nI nn))]) ?_ (0, n_F 0) ?_ hP hD hS hl
                · intro x hI ih127 H locs ls hP hD hS hl
                  obtain ⟨x2, wf⟩ := x
                  try dsimp only at hI
                  have hP : va_P D vwCl [_, _, _, _, _, _, _, _, _, _, _, oqI k (n_a 0) 8 (wf), oqF1 k n_a n_F, oqF2 k n_a n_F, oqF3 k n_a n_F, oqF4 k n_a n_F, oqF5 k n_a n_F, oqF6 k n_a n_F] H := hP
                  have hD : va_D A [_, _, _, _, _, _, _, _, _, _, _, oqI k (n_a 0) 8 (wf), oqF1 k n_a n_F, oqF2 k n_a n_F, oqF3 k n_a n_F, oqF4 k n_a n_F, oqF5 k n_a n_F, oqF6 k n_a n_F] := hD
                  have hl : lv_has ls 9 [(8, .int (nI x2)), (7, .int (nI wh)), (6, .int fo), (5, .ref sh3), (0, .ref h), (1, .int 3), (2, .int v), (3, .int f), (4, .int (nI nn))] := hl
                  refine lv_iload hx hb dX7_read_127 (lv_at hl 0 rfl) ?_
                  refine lv_iload hx hb dX7_read_129 (lv_at hl 1 rfl) ?_
                  refine lv_icmp_ge (tgt := 169) hx hb dX7_read_131 rfl (fun c_157 => ?_) (fun c_157 => ?_)
                  · have nc_157 : wh ≤ x2 := (nI_leI (a := wh) (b := x2) (by omega) (by omega)).mp c_157
                    refine lv_aload_n hx hb dX7_read_169 rfl (lv_at hl 4 rfl) ?_
                    refine lv_iload hx hb dX7_read_170 (lv_at hl 2 rfl) ?_
                    refine va_put (D := D) (ci := 6) (v := .int fo) (ty := .int) (C := RX7) (T := TX7) (N := 10) hx hb hts hiX7 tyX7 tyX7_ok nmX7 hown hK hP hD hS 0 rfl rfl 9 (Nat.le_of_ble_eq_true rfl) fl283 (fun _ h9 => h9) rfl (by decide +kernel) rfl rfl (Nat.le_of_ble_eq_true rfl) dX7_read_172 (fun H locs hP hD hS => ?_)
                    have hP : va_P D vwCl [oq6 h h_now h_trial h_images h_imageThere h_teller h_ranks h_court h_sheets h_lf fo, _, _, _, _, _, _, _, _, _, _, _, _, _, _, _, _, _] H := hP
                    have hD : va_D A [oq6 h h_now h_trial h_images h_imageThere h_teller h_ranks h_court h_sheets h_lf fo, _, _, _, _, _, _, _, _, _, _, _, _, _, _, _, _, _] := hD
                    refine lv_iload hx hb dX7_read_175 (lv_at hl 1 rfl) ?_
                    exact hs_iret hx hb hr hlocks hK hP hD hS (wf, fo) [0, 1, 2, 3, 4, 5, 6, 7, 8, 9, 10, 11, 12, 13, 14, 15, 16, 17] rfl (hs_upnd rfl) dX7_read_177 (Or.inr ⟨3, nn, by decide, rfl, by omega, rfl, hs_nb c_140, (if e9 : fo = 0 then (by have h9 := (hI44.2.2.1 e9).1; have hx9 := hI44.1; have h2 : wh = nn := (by first | omega | exact absurd e9 (by assumption)); exact ⟨wh, by omega, hok9, Or.inr (Or.inl ⟨h2, rfl, by (try dsimp only); rw [hI.2, show x2 = wh by omega, e9]⟩)⟩) else (by have h9 := hI44.2.2.2 e9; have hx9 := hI44.1; exact ⟨wh, by omega, hok9, Or.inr (Or.inr ⟨by omega, by rw [← h9.2.2]; exact e9, rfl, by (try dsimp only); rw [hI.2, show x2 = wh by omega, ← h9.2.2]⟩)⟩))⟩)
                  · have nc_157 : ¬ wh ≤ x2 := fun hq9 => c_157 ((nI_leI (a := wh) (b := x2) (by omega) (by omega)).mpr hq9)
                    refine lv_aload_n hx hb dX7_read_134 rfl (lv_at hl 4 rfl) ?_
                    refine lv_aload hx hb dX7_read_135 (lv_at hl 3 rfl) ?_
                    refine lv_iload_n hx hb dX7_read_137 rfl (lv_at hl 7 rfl) ?_
                    refine lv_iconst (v := 2) hx hb dX7_read_138 hki_2 ?_
                    refine lv_iload hx hb dX7_read_139 (lv_at hl 0 rfl) ?_
                    refine lv_imul hx hb dX7_read_141 ?_
                    refine hs_topi (nI (2 * x2)) (pk_mul (2) (x2)) ?_
                    refine lv_iadd hx hb dX7_read_142 ?_
                    refine hs_ciM (va_runV (As := [.int (f + (nI (2 * x2)))]) (rest := [.ref h]) ⟨hx, hb, hml, hown, hts⟩ (gf_at l D k _ sh3 (s_row 3) (s_la 3) (s_z 3) (f + (nI (2 * x2))) (s_r 3) (by omega)) (cwV 1 hts gX7_read_X3_at rfl rfl rfl ⟨rfl, hq_X3_at⟩ ⟨Nat.le_of_ble_eq_true rfl, Nat.le_of_ble_eq_true rfl⟩) (hs_preV hK hN (hs_subP (w := [_, _]) hP [8, 9] rfl) (hD.sub (ws' := [_, _]) [8, 9] (hs_upnd rfl) rfl) (ci := 2) (q0 := 0) rfl rfl) rfl rfl hl.1 rfl (lv_room (Nat.le_of_ble_eq_true rfl)) dX7_read_143 ⟨Nat.le_of_ble_eq_true rfl, Nat.le_of_ble_eq_true rfl⟩) hP hD hS hA [true, true, true, true, true, true, true, true, false, false, true, true, true, true, true, true, true, true] [_, _, _, _, _, _, _, _, _, _, _, _, _, _, _, _] [_, _] rfl [0, 1] rfl [0, 1] (fun u_160 => [_, _]) (fun _ => rfl) (hs_upnd rfl) [true, true, true, true, true, true, true, true, false, false, true, true, true, true, true, true, true, true] (fun u_160 => [_, _, _, _, _, _, _, _, _, _, _, _, _, _, _, _, _, _]) (fun _ => rfl) (fun r_158 u_160 H locs hw_159 hP hD hS => ?_)
                    refine hs_topi (aTs (s_z 3) (s_r 3) (f + (nI (2 * x2)))) hw_159 ?_
                    refine lv_aload hx hb dX7_read_146 (lv_at hl 3 rfl) ?_
                    refine lv_iload_n hx hb dX7_read_148 rfl (lv_at hl 7 rfl) ?_
                    refine lv_iconst (v := 2) hx hb dX7_read_149 hki_2 ?_
                    refine lv_iload hx hb dX7_read_150 (lv_at hl 0 rfl) ?_
                    refine lv_imul hx hb dX7_read_152 ?_
                    refine hs_topi (nI (2 * x2)) (pk_mul (2) (x2)) ?_
                    refine lv_iadd hx hb dX7_read_153 ?_
                    refine lv_iconst (v := 1) hx hb dX7_read_154 hki_1 ?_
                    refine lv_iadd hx hb dX7_read_155 ?_
                    refine hs_ciM (va_runV (As := [.int ((f + (nI (2 * x2))) + 1)]) (rest := [.int (aTs (s_z 3) (s_r 3) (f + (nI (2 * x2)))), .ref h]) ⟨hx, hb, hml, hown, hts⟩ (gf_at l D k _ sh3 (s_row 3) (s_la 3) (s_z 3) ((f + (nI (2 * x2))) + 1) (s_r 3) (by omega)) (cwV 1 hts gX7_read_X3_at rfl rfl rfl ⟨rfl, hq_X3_at⟩ ⟨Nat.le_of_ble_eq_true rfl, Nat.le_of_ble_eq_true rfl⟩) (hs_preV hK hN (hs_subP (w := [_, _]) hP [8, 9] rfl) (hD.sub (ws' := [_, _]) [8, 9] (hs_upnd rfl) rfl) (ci := 2) (q0 := 0) rfl rfl) rfl rfl hl.1 rfl (lv_room (Nat.le_of_ble_eq_true rfl)) dX7_read_156 ⟨Nat.le_of_ble_eq_true rfl, Nat.le_of_ble_eq_true rfl⟩) hP hD hS hA [true, true, true, true, true, true, true, true, false, false, true, true, true, true, true, true, true, true] [_, _, _, _, _, _, _, _, _, _, _, _, _, _, _, _] [_, _] rfl [0, 1] rfl [0, 1] (fun u_163 => [_, _]) (fun _ => rfl) (hs_upnd rfl) [true, true, true, true, true, true, true, true, false, false, true, true, true, true, true, true, true, true] (fun u_163 => [_, _, _, _, _, _, _, _, _, _, _, _, _, _, _, _, _, _]) (fun _ => rfl) (fun r_161 u_163 H locs hw_162 hP hD hS => ?_)
                    refine hs_topi (aTs (s_z 3) (s_r 3) ((f + (nI (2 * x2))) + 1)) hw_162 ?_
                    refine hs_ciM (va_runV (As := [.int (aTs (s_z 3) (s_r 3) (f + (nI (2 * x2)))), .int (aTs (s_z 3) (s_r 3) ((f + (nI (2 * x2))) + 1))]) (rest := []) ⟨hx, hb, hml, hown, hts⟩ (gpf_weigh l D k _ h h_now h_trial h_images h_imageThere h_teller h_ranks h_court h_sheets h_lf h_lt n_a n_N n_J (fun j => ([wf, n_F 1, n_F 2, n_F 3, n_F 4, n_F 5, n_F 6] : List (Nat → Int32)).getD j hsz) (aTs (s_z 3) (s_r 3) (f + (nI (2 * x2)))) (aTs (s_z 3) (s_r 3) ((f + (nI (2 * x2))) + 1)) hNn ⟨hF.1, hF.2⟩ h2) (cwV 2 hts gX7_read_X7_weigh rfl rfl rfl ⟨rfl, hq_X7_weigh⟩ ⟨Nat.le_of_ble_eq_true rfl, Nat.le_of_ble_eq_true rfl⟩) (hs_preV hK hN (hs_subP (w := [_, _, _, _, _, _, _, _, _]) hP [0, 10, 11, 12, 13, 14, 15, 16, 17] rfl) (hD.sub (ws' := [_, _, _, _, _, _, _, _, _]) [0, 10, 11, 12, 13, 14, 15, 16, 17] (hs_upnd rfl) rfl) (ci := 6) (q0 := 0) rfl rfl) rfl rfl hl.1 rfl (lv_room (Nat.le_of_ble_eq_true rfl)) dX7_read_159 ⟨Nat.le_of_ble_eq_true rfl, Nat.le_of_ble_eq_true rfl⟩) hP hD hS hA [false, true, true, true, true, true, true, true, true, true, false, false, false, false, false, false, false, false] [_, _, _, _, _, _, _, _, _] [_, _, _, _, _, _, _, _, _] rfl [0, 1, 2, 3, 4, 5, 6, 7, 8] rfl [0, 1, 2, 3, 4, 5, 6, 7, 8] (fun u_166 => [_, _, _, _, _, _, _, _, _]) (fun _ => rfl) (hs_upnd rfl) [false, true, true, true, true, true, true, true, true, true, false, false, false, false, false, false, false, false] (fun u_166 => [_, _, _, _, _, _, _, _, _, _, _, _, _, _, _, _, _, _]) (fun _ => rfl) (fun r_164 u_166 H locs hw_165 hP hD hS => ?_)
                    have hw_165 : cWg (n_N 0) ((fun j => ([wf, n_F 1, n_F 2, n_F 3, n_F 4, n_F 5, n_F 6] : List (Nat → Int32)).getD j hsz) 0) (aTs (s_z 3) (s_r 3) (f + (nI (2 * x2)))) (aTs (s_z 3) (s_r 3) ((f + (nI (2 * x2))) + 1)) r_164 u_166 := hw_165
                    refine lv_pop hx hb dX7_read_162 rfl ?_
                    refine lv_iinc (v := nI (x2 + 1)) (lv' := [(8, .int (nI (x2 + 1))), (7, .int (nI wh)), (6, .int fo), (5, .ref sh3), (0, .ref h), (1, .int 3), (2, .int v), (3, .int f), (4, .int (nI nn))]) hx hb dX7_read_163 hl (k := 0) rfl (nI_add (x2) 1) (Nat.le_of_ble_eq_true rfl) rfl (fun ls hl => ?_)
                    refine lv_goto (tgt := 127) hx hb dX7_read_166 rfl ?_
                    exact ih127 (x2 + 1, u_166) (by (try dsimp only); exact ⟨by omega, (by rw [cWg_ok hw_165 (hok9 x2 (by omega)).2, hI.2]; rfl)⟩) (by (try dsimp only); omega) _ _ _ hP hD hS (lv_sub hl [0, 1, 2, 3, 4, 5, 6, 7, 8] rfl)
                · (try dsimp only); exact ⟨Nat.zero_le _, rfl⟩
              · refine lv_aload hx hb dX7_read_56 (lv_at hl 3 rfl) ?_
                refine lv_iload_n hx hb dX7_read_58 rfl (lv_at hl 6 rfl) ?_
                refine lv_iload_n hx hb dX7_read_59 rfl (lv_at hl 7 rfl) ?_
                refine lv_iconst (v := 2) hx hb dX7_read_60 hki_2 ?_
                refine lv_iload hx hb dX7_read_61 (lv_at hl 0 rfl) ?_
                refine lv_imul hx hb dX7_read_63 ?_
                refine hs_topi (nI (2 * x1)) (pk_mul (2) (x1)) ?_
                refine lv_iadd hx hb dX7_read_64 ?_
                refine hs_ciM (va_runV (As := [.int v, .int (f + (nI (2 * x1)))]) (rest := []) ⟨hx, hb, hml, hown, hts⟩ (gf_faultOfTwo l D k _ sh3 (s_row 3) (s_la 3) (s_z 3) v (f + (nI (2 * x1))) (by omega)) (cwV 2 hts gX7_read_X3_faultOfTwo rfl rfl rfl ⟨rfl, hq_X3_faultOfTwo⟩ ⟨Nat.le_of_ble_eq_true rfl, Nat.le_of_ble_eq_true rfl⟩) (hs_preV hK hN (hs_subP (w := [_]) hP [8] rfl) (hD.sub (ws' := [_]) [8] (hs_upnd rfl) rfl) (ci := 2) (q0 := 0) rfl rfl) rfl rfl hl.1 rfl (lv_room (Nat.le_of_ble_eq_true rfl)) dX7_read_65 ⟨Nat.le_of_ble_eq_true rfl, Nat.le_of_ble_eq_true rfl⟩) hP hD hS hA [true, true, true, true, true, true, true, true, false, true, true, true, true, true, true, true, true, true] [_, _, _, _, _, _, _, _, _, _, _, _, _, _, _, _, _] [_] rfl [0] rfl [0] (fun u_169 => [_]) (fun _ => rfl) (hs_upnd rfl) [true, true, true, true, true, true, true, true, false, true, true, true, true, true, true, true, true, true] (fun u_169 => [_, _, _, _, _, _, _, _, _, _, _, _, _, _, _, _, _, _]) (fun _ => rfl) (fun r_167 u_169 H locs hw_168 hP hD hS => ?_)
                refine hs_topi (fTw (s_la 3) (s_z 3) v (f + (nI (2 * x1)))) hw_168 ?_
                refine lv_istore (lv' := [(6, .int (fTw (s_la 3) (s_z 3) v (f + (nI (2 * x1))))), (8, .int (nI x1)), (7, .int (nI wh)), (5, .ref sh3), (0, .ref h), (1, .int 3), (2, .int v), (3, .int f), (4, .int (nI nn))]) hx hb dX7_read_68 hl (Nat.le_of_ble_eq_true rfl) rfl (fun ls hl => ?_)
                refine lv_iload hx hb dX7_read_70 (lv_at hl 0 rfl) ?_
                refine lv_if_ne (tgt := 118) hx hb dX7_read_72 rfl (fun c_170 => ?_) (fun c_170 => ?_)
                · refine lv_iinc (v := nI (x1 + 1)) (lv' := [(8, .int (nI (x1 + 1))), (6, .int (fTw (s_la 3) (s_z 3) v (f + (nI (2 * x1))))), (7, .int (nI wh)), (5, .ref sh3), (0, .ref h), (1, .int 3), (2, .int v), (3, .int f), (4, .int (nI nn))]) hx hb dX7_read_118 hl (k := 1) rfl (nI_add (x1) 1) (Nat.le_of_ble_eq_true rfl) rfl (fun ls hl => ?_)
                  refine lv_goto (tgt := 44) hx hb dX7_read_121 rfl ?_
                  exact ih44 (fTw (s_la 3) (s_z 3) v (f + (nI (2 * x1))), wh, x1 + 1) (by (try dsimp only); exact ⟨by omega, by omega, fun z9 => absurd z9 c_170, fun _ => ⟨by have h9 := (hI.2.2.1 c_156).1; omega, fun j hj => (hI.2.2.1 c_156).2 j (by have h9 := (hI.2.2.1 c_156).1; omega), by rw [(hI.2.2.1 c_156).1]; rfl⟩⟩) (by (try dsimp only); omega) _ _ _ hP hD hS (lv_sub hl [0, 2, 1, 3, 4, 5, 6, 7, 8] rfl)
                · refine lv_aload_n hx hb dX7_read_75 rfl (lv_at hl 4 rfl) ?_
                  refine va_get (D := D) (ci := 6) (v := .ref h_now) (C := RX7) (T := TX7) (N := 10) hx hb hts hiX7 hown hK hP 0 rfl rfl 0 (Nat.le_of_ble_eq_true rfl) fl10 (fun _ h9 => h9) rfl dX7_read_76 ?_
                  refine lv_aload hx hb dX7_read_79 (lv_at hl 3 rfl) ?_
                  refine lv_iload_n hx hb dX7_read_81 rfl (lv_at hl 7 rfl) ?_
                  refine lv_iconst (v := 2) hx hb dX7_read_82 hki_2 ?_
                  refine lv_iload hx hb dX7_read_83 (lv_at hl 1 rfl) ?_
                  refine lv_imul hx hb dX7_read_85 ?_
                  refine hs_topi (nI (2 * x1)) (pk_mul (2) (x1)) ?_
                  refine lv_iadd hx hb dX7_read_86 ?_
                  refine hs_ciM (va_runV (As := [.int (f + (nI (2 * x1)))]) (rest := [.ref h_now]) ⟨hx, hb, hml, hown, hts⟩ (gf_at l D k _ sh3 (s_row 3) (s_la 3) (s_z 3) (f + (nI (2 * x1))) (s_r 3) (by omega)) (cwV 1 hts gX7_read_X3_at rfl rfl rfl ⟨rfl, hq_X3_at⟩ ⟨Nat.le_of_ble_eq_true rfl, Nat.le_of_ble_eq_true rfl⟩) (hs_preV hK hN (hs_subP (w := [_, _]) hP [8, 9] rfl) (hD.sub (ws' := [_, _]) [8, 9] (hs_upnd rfl) rfl) (ci := 2) (q0 := 0) rfl rfl) rfl rfl hl.1 rfl (lv_room (Nat.le_of_ble_eq_true rfl)) dX7_read_87 ⟨Nat.le_of_ble_eq_true rfl, Nat.le_of_ble_eq_true rfl⟩) hP hD hS hA [true, true, true, true, true, true, true, true, false, false, true, true, true, true, true, true, true, true] [_, _, _, _, _, _, _, _, _, _, _, _, _, _, _, _] [_, _] rfl [0, 1] rfl [0, 1] (fun u_173 => [_, _]) (fun _ => rfl) (hs_upnd rfl) [true, true, true, true, true, true, true, true, false, false, true, true, true, true, true, true, true, true] (fun u_173 => [_, _, _, _, _, _, _, _, _, _, _, _, _, _, _, _, _, _]) (fun _ => rfl) (fun r_171 u_173 H locs hw_172 hP hD hS => ?_)
                  refine hs_topi (aTs (s_z 3) (s_r 3) (f + (nI (2 * x1)))) hw_172 ?_
                  refine lv_aload hx hb dX7_read_90 (lv_at hl 3 rfl) ?_
                  refine lv_iload_n hx hb dX7_read_92 rfl (lv_at hl 7 rfl) ?_
                  refine lv_iconst (v := 2) hx hb dX7_read_93 hki_2 ?_
                  refine lv_iload hx hb dX7_read_94 (lv_at hl 1 rfl) ?_
                  refine lv_imul hx hb dX7_read_96 ?_
                  refine hs_topi (nI (2 * x1)) (pk_mul (2) (x1)) ?_
                  refine lv_iadd hx hb dX7_read_97 ?_
                  refine lv_iconst (v := 1) hx hb dX7_read_98 hki_1 ?_
                  refine lv_iadd hx hb dX7_read_99 ?_
                  refine hs_ciM (va_runV (As := [.int ((f + (nI (2 * x1))) + 1)]) (rest := [.int (aTs (s_z 3) (s_r 3) (f + (nI (2 * x1)))), .ref h_now]) ⟨hx, hb, hml, hown, hts⟩ (gf_at l D k _ sh3 (s_row 3) (s_la 3) (s_z 3) ((f + (nI (2 * x1))) + 1) (s_r 3) (by omega)) (cwV 1 hts gX7_read_X3_at rfl rfl rfl ⟨rfl, hq_X3_at⟩ ⟨Nat.le_of_ble_eq_true rfl, Nat.le_of_ble_eq_true rfl⟩) (hs_preV hK hN (hs_subP (w := [_, _]) hP [8, 9] rfl) (hD.sub (ws' := [_, _]) [8, 9] (hs_upnd rfl) rfl) (ci := 2) (q0 := 0) rfl rfl) rfl rfl hl.1 rfl (lv_room (Nat.le_of_ble_eq_true rfl)) dX7_read_100 ⟨Nat.le_of_ble_eq_true rfl, Nat.le_of_ble_eq_true rfl⟩) hP hD hS hA [true, true, true, true, true, true, true, true, false, false, true, true, true, true, true, true, true, true] [_, _, _, _, _, _, _, _, _, _, _, _, _, _, _, _] [_, _] rfl [0, 1] rfl [0, 1] (fun u_176 => [_, _]) (fun _ => rfl) (hs_upnd rfl) [true, true, true, true, true, true, true, true, false, false, true, true, true, true, true, true, true, true] (fun u_176 => [_, _, _, _, _, _, _, _, _, _, _, _, _, _, _, _, _, _]) (fun _ => rfl) (fun r_174 u_176 H locs hw_175 hP hD hS => ?_)
                  refine hs_topi (aTs (s_z 3) (s_r 3) ((f + (nI (2 * x1))) + 1)) hw_175 ?_
                  refine hs_ciM (va_runV (As := [.int (aTs (s_z 3) (s_r 3) (f + (nI (2 * x1)))), .int (aTs (s_z 3) (s_r 3) ((f + (nI (2 * x1))) + 1))]) (rest := []) ⟨hx, hb, hml, hown, hts⟩ (g_canWeigh l D k _ h_now n_a n_N n_J (aTs (s_z 3) (s_r 3) (f + (nI (2 * x1)))) (aTs (s_z 3) (s_r 3) ((f + (nI (2 * x1))) + 1)) (by first | assumption | exact ⟨by first | omega | (dsimp; omega), by first | omega | (dsimp; omega), ⟨by first | omega | (dsimp; omega), by first | omega | (dsimp; omega)⟩, by first | omega | (dsimp; omega), by first | omega | (dsimp; omega)⟩)) (cwV 2 hts gX7_read_X6_canWeigh rfl rfl rfl ⟨rfl, hq_X6_canWeigh⟩ ⟨Nat.le_of_ble_eq_true rfl, Nat.le_of_ble_eq_true rfl⟩) (hs_preV hK hN (hs_subP (w := [_]) hP [10] rfl) (hD.sub (ws' := [_]) [10] (hs_upnd rfl) rfl) (ci := 5) (q0 := 0) rfl rfl) rfl rfl hl.1 rfl (lv_room (Nat.le_of_ble_eq_true rfl)) dX7_read_103 ⟨Nat.le_of_ble_eq_true rfl, Nat.le_of_ble_eq_true rfl⟩) hP hD hS hA [true, true, true, true, true, true, true, true, true, true, false, true, true, true, true, true, true, true] [_, _, _, _, _, _, _, _, _, _, _, _, _, _, _, _, _] [_] rfl [0] rfl [0] (fun u_179 => [_]) (fun _ => rfl) (hs_upnd rfl) [true, true, true, true, true, true, true, true, true, true, false, true, true, true, true, true, true, true] (fun u_179 => [_, _, _, _, _, _, _, _, _, _, _, _, _, _, _, _, _, _]) (fun _ => rfl) (fun r_177 u_179 H locs hw_178 hP hD hS => ?_)
                  refine hs_topi (hsb (hslt (aTs (s_z 3) (s_r 3) (f + (nI (2 * x1)))) (n_N 0) && hsin (aTs (s_z 3) (s_r 3) ((f + (nI (2 * x1))) + 1)) 0 9)) hw_178 ?_
                  refine lv_if_ne (tgt := 115) hx hb dX7_read_106 rfl (fun c_180 => ?_) (fun c_180 => ?_)
                  · refine lv_iinc (v := nI (wh + 1)) (lv' := [(7, .int (nI (wh + 1))), (6, .int (fTw (s_la 3) (s_z 3) v (f + (nI (2 * x1))))), (8, .int (nI x1)), (5, .ref sh3), (0, .ref h), (1, .int 3), (2, .int v), (3, .int f), (4, .int (nI nn))]) hx hb dX7_read_115 hl (k := 2) rfl (nI_add (wh) 1) (Nat.le_of_ble_eq_true rfl) rfl (fun ls hl => ?_)
                    refine lv_iinc (v := nI (x1 + 1)) (lv' := [(8, .int (nI (x1 + 1))), (7, .int (nI (wh + 1))), (6, .int (fTw (s_la 3) (s_z 3) v (f + (nI (2 * x1))))), (5, .ref sh3), (0, .ref h), (1, .int 3), (2, .int v), (3, .int f), (4, .int (nI nn))]) hx hb dX7_read_118 hl (k := 2) rfl (nI_add (x1) 1) (Nat.le_of_ble_eq_true rfl) rfl (fun ls hl => ?_)
                    refine lv_goto (tgt := 44) hx hb dX7_read_121 rfl ?_
                    exact ih44 (fTw (s_la 3) (s_z 3) v (f + (nI (2 * x1))), wh + 1, x1 + 1) (by (try dsimp only); exact ⟨by omega, by omega, fun _ => ⟨by have h9 := (hI.2.2.1 c_156).1; omega, fun j hj => if e9 : j = x1 then (by subst e9; exact ⟨c_170, hs_nb c_180⟩) else (hI.2.2.1 c_156).2 j (by omega)⟩, fun z9 => absurd c_170 z9⟩) (by (try dsimp only); omega) _ _ _ hP hD hS (lv_sub hl [0, 1, 2, 3, 4, 5, 6, 7, 8] rfl)
                  · refine lv_bipush (v := (-20)) hx hb dX7_read_109 hkb_m20 ?_
                    refine lv_iload hx hb dX7_read_111 (lv_at hl 1 rfl) ?_
                    refine lv_isub hx hb dX7_read_113 ?_
                    exact hs_iret hx hb hr hlocks hK hP hD hS (n_F 0, h_lt) [0, 1, 2, 3, 4, 5, 6, 7, 8, 9, 10, 11, 12, 13, 14, 15, 16, 17] rfl (hs_upnd rfl) dX7_read_114 (Or.inr ⟨3, nn, by decide, rfl, by omega, rfl, hs_nb c_140, x1, by omega, (hI.2.2.1 c_156).2, Or.inl ⟨by omega, c_170, hs_n0 c_180, rfl, rfl⟩⟩)
          · (try dsimp only); exact ⟨Nat.zero_le _, Nat.le_refl _, fun _ => ⟨rfl, fun j hj => absurd hj (Nat.not_lt_zero j)⟩, fun z9 => absurd rfl z9⟩
        · refine lv_iconst (v := (-1)) hx hb dX7_read_25 hki_m1 ?_
          exact hs_iret hx hb hr hlocks hK hP hD hS (n_F 0, h_lt) [0, 1, 2, 3, 4, 5, 6, 7, 8, 9, 10, 11, 12, 13, 14, 15, 16, 17] rfl (hs_upnd rfl) dX7_read_26 (Or.inl ⟨hs_rbad (Or.inr (Or.inr (hs_n0 c_144))), rfl, rfl⟩)
