/-- a value cut to a lane -/
def lnV (la v : Int32) : Int32 := if la = 0 then v.toInt8.toInt32 else if la = 1 then v.toInt16.toInt32 else v
def cpQ (F G : Nat → Nat → Int32) : Prop := ∀ q i, i < hs7 q → G q i = F q i
def cKe (it : Nat → Int32) (n a b : (Nat → Nat) × (Nat → Int32) × (Nat → Nat → Int32)) (i r : Int32) (u : (Nat → Int32) × ((Nat → Nat) × (Nat → Int32) × (Nat → Nat → Int32)) × ((Nat → Nat) × (Nat → Int32) × (Nat → Nat → Int32))) : Prop :=
  (hsin i 0 1 = false ∧ r = -1 ∧ u = (it, a, b)) ∨ (i = 0 ∧ r = (if it 0 = 0 then 0 else 1) ∧ u.1 = upd it 0 1 ∧ u.2.1.1 = n.1 ∧ u.2.1.2.1 = n.2.1 ∧ cpQ n.2.2 u.2.1.2.2 ∧ u.2.2 = b) ∨ (i = 1 ∧ r = (if it 1 = 0 then 0 else 1) ∧ u.1 = upd it 1 1 ∧ u.2.2.1 = n.1 ∧ u.2.2.2.1 = n.2.1 ∧ cpQ n.2.2 u.2.2.2.2 ∧ u.2.1 = a)
def cBa (it : Nat → Int32) (n a b : (Nat → Nat) × (Nat → Int32) × (Nat → Nat → Int32)) (i r : Int32) (u : (Nat → Nat) × (Nat → Int32) × (Nat → Nat → Int32)) : Prop :=
  (hsin i 0 1 = false ∧ r = -1 ∧ u = n) ∨ (i = 0 ∧ ((it 0 = 0 ∧ r = -2 ∧ u = n) ∨ (¬ it 0 = 0 ∧ r = nI (a.1 0) ∧ u.1 = a.1 ∧ u.2.1 = a.2.1 ∧ cpQ a.2.2 u.2.2))) ∨ (i = 1 ∧ ((it 1 = 0 ∧ r = -2 ∧ u = n) ∨ (¬ it 1 = 0 ∧ r = nI (b.1 0) ∧ u.1 = b.1 ∧ u.2.1 = b.2.1 ∧ cpQ b.2.2 u.2.2)))
theorem A_ne1 {la i : Int32} {z : Nat} (h : ¬ (if la = -1 then (1 : Int32) else if hslt i z then 0 else 2) = 0) : ¬ (-10 : Int32) - (if la = -1 then (1 : Int32) else if hslt i z then 0 else 2) = 1 := by
  by_cases h1 : la = -1
  · rw [if_pos h1]; decide
  · rw [if_neg h1]
    rw [if_neg h1] at h
    by_cases h2 : hslt i z = true
    · rw [if_pos h2] at h; exact absurd rfl h
    · rw [if_neg h2]; decide

set_option maxHeartbeats 4000000 in
set_option maxRecDepth 100000 in
theorem gpf_keep (l : Launch) (D : va_G) (k : Nat → ClassId) (sz : Nat) (h : Nat) (h_now : Nat) (h_trial : Nat) (h_images : Nat) (h_imageThere : Nat) (h_teller : Nat) (h_ranks : Nat) (h_court : Nat) (h_sheets : Nat) (h_lf : Int32) (h_lt : Int32) (it : Nat → Int32) (n_a : Nat → Nat) (n_N : Nat → Nat) (n_J : Nat → Int32) (n_F : Nat → Nat → Int32) (im0 : Nat) (i0_a : Nat → Nat) (i0_N : Nat → Nat) (i0_J : Nat → Int32) (i0_F : Nat → Nat → Int32) (im1 : Nat) (i1_a : Nat → Nat) (i1_N : Nat → Nat) (i1_J : Nat → Int32) (i1_F : Nat → Nat → Int32) (i : Int32)  : MI l yX7_keep wsX7_keep ({ frames := 2, cells := 0, slots := 0, locals := 81 }) D k [.ref h, .int i] [oq6 h h_now h_trial h_images h_imageThere h_teller h_ranks h_court h_sheets h_lf h_lt, (h_images, .inl (k 4, 2, .inr (.inr (.inr (.inr (va_up (va_up (fun _ => none) 0 (some im0)) 1 (some im1))))))), oqB k h_imageThere 2 (it), oqT h_now n_a n_N n_J, oqF0 k n_a n_F, oqF1 k n_a n_F, oqF2 k n_a n_F, oqF3 k n_a n_F, oqF4 k n_a n_F, oqF5 k n_a n_F, oqF6 k n_a n_F, oqT im0 i0_a i0_N i0_J, oqF0 k i0_a i0_F, oqF1 k i0_a i0_F, oqF2 k i0_a i0_F, oqF3 k i0_a i0_F, oqF4 k i0_a i0_F, oqF5 k i0_a i0_F, oqF6 k i0_a i0_F, oqT im1 i1_a i1_N i1_J, oqF0 k i1_a i1_F, oqF1 k i1_a i1_F, oqF2 k i1_a i1_F, oqF3 k i1_a i1_F, oqF4 k i1_a i1_F, oqF5 k i1_a i1_F, oqF6 k i1_a i1_F] sz (fun (r : Int32) (u : (Nat → Int32) × ((Nat → Nat) × (Nat → Int32) × (Nat → Nat → Int32)) × ((Nat → Nat) × (Nat → Int32) × (Nat → Nat → Int32))) => cKe it (n_N, n_J, n_F) (i0_N, i0_J, i0_F) (i1_N, i1_J, i1_F) i r u) (fun (u : (Nat → Int32) × ((Nat → Nat) × (Nat → Int32) × (Nat → Nat → Int32)) × ((Nat → Nat) × (Nat → Int32) × (Nat → Nat → Int32))) => [oq6 h h_now h_trial h_images h_imageThere h_teller h_ranks h_court h_sheets h_lf h_lt, (h_images, .inl (k 4, 2, .inr (.inr (.inr (.inr (va_up (va_up (fun _ => none) 0 (some im0)) 1 (some im1))))))), oqB k h_imageThere 2 (u.1), oqT h_now n_a n_N n_J, oqF0 k n_a n_F, oqF1 k n_a n_F, oqF2 k n_a n_F, oqF3 k n_a n_F, oqF4 k n_a n_F, oqF5 k n_a n_F, oqF6 k n_a n_F, oqT im0 i0_a u.2.1.1 u.2.1.2.1, oqF0 k i0_a u.2.1.2.2, oqF1 k i0_a u.2.1.2.2, oqF2 k i0_a u.2.1.2.2, oqF3 k i0_a u.2.1.2.2, oqF4 k i0_a u.2.1.2.2, oqF5 k i0_a u.2.1.2.2, oqF6 k i0_a u.2.1.2.2, oqT im1 i1_a u.2.2.1 u.2.2.2.1, oqF0 k i1_a u.2.2.2.2, oqF1 k i1_a u.2.2.2.2, oqF2 k i1_a u.2.2.2.2, oqF3 k i1_a u.2.2.2.2, oqF4 k i1_a u.2.2.2.2, oqF5 k i1_a u.2.2.2.2, oqF6 k i1_a u.2.2.2.2]) := by
  refine Met.ofW (cc := cX7_keep) (maxL := 3) (ret := (some .int)) hpn_X7 rfl ?_
  intro p e s m args below meth c s₁ B hml hv
  obtain ⟨rfl, hsz, hP, hK, hD0, hN⟩ := hv
  have hx := B.exec
  have hb := B.bytes
  have hr := B.returns
  have hlocks := B.notSynchronized
  have hts := atoms_spec (ws := wsX7_keep) B.pre
  have hown := findClass_of_methodNamed B.named
  have hown : s.vm.findClass RX7 = some m.cls := hown
  have hiX7 : ∀ w ∈ u_ws RX7 TX7 10, w ∈ wsX7_keep := fun w9 hw9 => List.mem_cons_of_mem _ (igX7 w9 hw9)
  have fl23 := hts (.fieldLink RX7 23 "HalfScales" "imageThere" "[Z") (List.mem_cons_of_mem _ (hs_inG 1 218 rfl rfl))
  have fl19 := hts (.fieldLink RX7 19 "HalfScales" "images" "[LHalfScales$Thing;") (List.mem_cons_of_mem _ (hs_inG 1 217 rfl rfl))
  have fl10 := hts (.fieldLink RX7 10 "HalfScales" "now" "LHalfScales$Thing;") (List.mem_cons_of_mem _ (hs_inG 1 215 rfl rfl))
  subst hsz
  have hD := hD0.self (sz := s.heap.size)
  generalize hAe : va_A [oq6 h h_now h_trial h_images h_imageThere h_teller h_ranks h_court h_sheets h_lf h_lt, (h_images, .inl (k 4, 2, .inr (.inr (.inr (.inr (va_up (va_up (fun _ => none) 0 (some im0)) 1 (some im1))))))), oqB k h_imageThere 2 (it), oqT h_now n_a n_N n_J, oqF0 k n_a n_F, oqF1 k n_a n_F, oqF2 k n_a n_F, oqF3 k n_a n_F, oqF4 k n_a n_F, oqF5 k n_a n_F, oqF6 k n_a n_F, oqT im0 i0_a i0_N i0_J, oqF0 k i0_a i0_F, oqF1 k i0_a i0_F, oqF2 k i0_a i0_F, oqF3 k i0_a i0_F, oqF4 k i0_a i0_F, oqF5 k i0_a i0_F, oqF6 k i0_a i0_F, oqT im1 i1_a i1_N i1_J, oqF0 k i1_a i1_F, oqF1 k i1_a i1_F, oqF2 k i1_a i1_F, oqF3 k i1_a i1_F, oqF4 k i1_a i1_F, oqF5 k i1_a i1_F, oqF6 k i1_a i1_F] s.heap.size = A at hD ⊢
  have hA : ∀ q : Nat, s.heap.size ≤ q → A q := fun q h => by rw [← hAe]; exact Or.inr h
  have hS : va_S A s.heap s.heap [] := va_S.rf
  have hl := lv_entry ([.ref h, .int i]) (n := 3) (Nat.le_of_ble_eq_true rfl)
  rw [lg_entry_eq]
  generalize (lg_sl ([.ref h, .int i]) ++ List.replicate (3 - (lg_sl ([.ref h, .int i])).length) Slot.unset).toArray = ls at hl ⊢
  have hl : lv_has ls 3 [(0, .ref h), (1, .int i)] := hl
  have hP : va_P D vwCl [oq6 h h_now h_trial h_images h_imageThere h_teller h_ranks h_court h_sheets h_lf h_lt, (h_images, .inl (k 4, 2, .inr (.inr (.inr (.inr (va_up (va_up (fun _ => none) 0 (some im0)) 1 (some im1))))))), oqB k h_imageThere 2 (it), oqT h_now n_a n_N n_J, oqF0 k n_a n_F, oqF1 k n_a n_F, oqF2 k n_a n_F, oqF3 k n_a n_F, oqF4 k n_a n_F, oqF5 k n_a n_F, oqF6 k n_a n_F, oqT im0 i0_a i0_N i0_J, oqF0 k i0_a i0_F, oqF1 k i0_a i0_F, oqF2 k i0_a i0_F, oqF3 k i0_a i0_F, oqF4 k i0_a i0_F, oqF5 k i0_a i0_F, oqF6 k i0_a i0_F, oqT im1 i1_a i1_N i1_J, oqF0 k i1_a i1_F, oqF1 k i1_a i1_F, oqF2 k i1_a i1_F, oqF3 k i1_a i1_F, oqF4 k i1_a i1_F, oqF5 k i1_a i1_F, oqF6 k i1_a i1_F] s.heap := hP
  refine lv_iload_n hx hb dX7_keep_0 rfl (lv_at hl 1 rfl) ?_
  refine lv_iconst (v := 0) hx hb dX7_keep_1 hki_0 ?_
  refine lv_iconst (v := 1) hx hb dX7_keep_2 hki_1 ?_
  refine hs_pi (va_runS (As := [.int i, .int 0, .int 1]) (rest := []) ⟨hx, hb, hml, hown, hts⟩ (g_within l D k _ i 0 1) (va_cwS 3 hts gX7_keep_X7_within rfl rfl rfl hq_X7_within ⟨Nat.le_of_ble_eq_true rfl, Nat.le_of_ble_eq_true rfl⟩) (hs_preS hK hN (hs_subP (w := []) hP [] rfl) (hD.sub (ws' := []) [] rfl rfl)) rfl rfl hl.1 rfl (lv_room (Nat.le_of_ble_eq_true rfl)) dX7_keep_3 ⟨Nat.le_of_ble_eq_true rfl, Nat.le_of_ble_eq_true rfl⟩) hP hD hS hA (fun r_1 u_3 H locs hw_2 hP hS => ?_)
  refine hs_topi (hsb (hsin i 0 1)) hw_2 ?_
  refine lv_if_ne (tgt := 11) hx hb dX7_keep_6 rfl (fun c_4 => ?_) (fun c_4 => ?_)
  · rcases hs_v01 (hs_nb c_4) with rfl | rfl
    · refine lv_aload_n hx hb dX7_keep_11 rfl (lv_at hl 0 rfl) ?_
      refine va_get (D := D) (ci := 6) (v := .ref h_imageThere) (C := RX7) (T := TX7) (N := 10) hx hb hts hiX7 hown hK hP 0 rfl rfl 3 (Nat.le_of_ble_eq_true rfl) fl23 (fun _ h9 => h9) rfl dX7_keep_12 ?_
      refine lv_iload_n hx hb dX7_keep_15 rfl (lv_at hl 1 rfl) ?_
      refine va_zald hx hb hK hP 2 2 rfl rfl (hs_in (by decide)) dX7_keep_16 ?_
      refine lv_if_eq (tgt := 24) hx hb dX7_keep_17 rfl (fun c_5 => ?_) (fun c_5 => ?_)
      · refine lv_iconst (v := 0) hx hb dX7_keep_24 hki_0 ?_
        refine lv_istore_n (lv' := [(2, .int 0), (0, .ref h), (1, .int 0)]) hx hb dX7_keep_25 rfl hl (Nat.le_of_ble_eq_true rfl) rfl (fun ls hl => ?_)
        refine lv_aload_n hx hb dX7_keep_26 rfl (lv_at hl 1 rfl) ?_
        refine va_get (D := D) (ci := 6) (v := .ref h_images) (C := RX7) (T := TX7) (N := 10) hx hb hts hiX7 hown hK hP 0 rfl rfl 2 (Nat.le_of_ble_eq_true rfl) fl19 (fun _ h9 => h9) rfl dX7_keep_27 ?_
        refine lv_iload_n hx hb dX7_keep_30 rfl (lv_at hl 2 rfl) ?_
        refine va_aldq hx hb hK hP 1 4 rfl rfl (hs_in (by decide)) dX7_keep_31 ?_
        refine W.eq (g2 := F0 m 32 ls (.ref im0 :: [])) rfl ?_
        refine lv_aload_n hx hb dX7_keep_32 rfl (lv_at hl 1 rfl) ?_
        refine va_get (D := D) (ci := 6) (v := .ref h_now) (C := RX7) (T := TX7) (N := 10) hx hb hts hiX7 hown hK hP 0 rfl rfl 0 (Nat.le_of_ble_eq_true rfl) fl10 (fun _ h9 => h9) rfl dX7_keep_33 ?_
        refine hs_cvM (va_runV (As := [.ref h_now]) (rest := []) ⟨hx, hb, hml, hown, hts⟩ (g_copyFrom l D k _ im0 i0_a i0_N i0_J i0_F h_now n_a n_N n_J n_F) (cwV 1 hts gX7_keep_X6_copyFrom rfl rfl rfl ⟨rfl, hq_X6_copyFrom⟩ ⟨Nat.le_of_ble_eq_true rfl, Nat.le_of_ble_eq_true rfl⟩) (hs_preV hK hN (hs_subP (w := [_, _, _, _, _, _, _, _, _, _, _, _, _, _, _, _]) hP [11, 12, 13, 14, 15, 16, 17, 18, 3, 4, 5, 6, 7, 8, 9, 10] rfl) (hD.sub (ws' := [_, _, _, _, _, _, _, _, _, _, _, _, _, _, _, _]) [11, 12, 13, 14, 15, 16, 17, 18, 3, 4, 5, 6, 7, 8, 9, 10] (by decide +kernel) rfl) (ci := 5) (q0 := 0) rfl rfl) rfl rfl hl.1 rfl (lv_room (Nat.le_of_ble_eq_true rfl)) dX7_keep_36 ⟨Nat.le_of_ble_eq_true rfl, Nat.le_of_ble_eq_true rfl⟩) hP hD hS hA [true, true, true, false, false, false, false, false, false, false, false, false, false, false, false, false, false, false, false, true, true, true, true, true, true, true, true] [_, _, _, _, _, _, _, _, _, _, _] [_, _, _, _, _, _, _, _, _, _, _, _, _, _, _, _] rfl [8, 9, 10, 11, 12, 13, 14, 15, 0, 1, 2, 3, 4, 5, 6, 7] rfl [8, 9, 10, 11, 12, 13, 14, 15, 0, 1, 2, 3, 4, 5, 6, 7] (fun u_8 => [_, _, _, _, _, _, _, _, _, _, _, _, _, _, _, _]) (fun _ => rfl) (by decide +kernel) [true, true, true, false, false, false, false, false, false, false, false, false, false, false, false, false, false, false, false, true, true, true, true, true, true, true, true] (fun u_8 => [_, _, _, _, _, _, _, _, _, _, _, _, _, _, _, _, _, _, _, _, _, _, _, _, _, _, _]) (fun _ => rfl) (fun u_8 H locs hw_7 hP hD hS => ?_)
        have hw_7 : ∀ q i, i < hs7 q → u_8 q i = n_F q i := hw_7
        refine lv_aload_n hx hb dX7_keep_39 rfl (lv_at hl 1 rfl) ?_
        refine va_get (D := D) (ci := 6) (v := .ref h_imageThere) (C := RX7) (T := TX7) (N := 10) hx hb hts hiX7 hown hK hP 0 rfl rfl 3 (Nat.le_of_ble_eq_true rfl) fl23 (fun _ h9 => h9) rfl dX7_keep_40 ?_
        refine lv_iload_n hx hb dX7_keep_43 rfl (lv_at hl 2 rfl) ?_
        refine lv_iconst (v := 1) hx hb dX7_keep_44 hki_1 ?_
        refine va_zast hx hb hK hP hD hS 2 2 rfl rfl (hs_in (by decide)) dX7_keep_45 (fun H locs hP hD hS => ?_)
        have hP : va_P D vwCl [_, _, oqB k h_imageThere 2 (upd it 0 1), _, _, _, _, _, _, _, _, _, _, _, _, _, _, _, _, _, _, _, _, _, _, _, _] H := hP
        have hD : va_D A [_, _, oqB k h_imageThere 2 (upd it 0 1), _, _, _, _, _, _, _, _, _, _, _, _, _, _, _, _, _, _, _, _, _, _, _, _] := hD
        refine lv_iload_n hx hb dX7_keep_46 rfl (lv_at hl 0 rfl) ?_
        exact hs_iret hx hb hr hlocks hK hP hD hS (upd it 0 1, (n_N, n_J, u_8), (i1_N, i1_J, i1_F)) [0, 1, 2, 3, 4, 5, 6, 7, 8, 9, 10, 11, 12, 13, 14, 15, 16, 17, 18, 19, 20, 21, 22, 23, 24, 25, 26] rfl (hs_upnd rfl) dX7_keep_47 (Or.inr (Or.inl ⟨rfl, by rw [if_pos (show it 0 = 0 from c_5)], rfl, rfl, rfl, hw_7, rfl⟩))
      · refine lv_iconst (v := 1) hx hb dX7_keep_20 hki_1 ?_
        refine lv_goto (tgt := 25) hx hb dX7_keep_21 rfl ?_
        refine lv_istore_n (lv' := [(2, .int 1), (0, .ref h), (1, .int 0)]) hx hb dX7_keep_25 rfl hl (Nat.le_of_ble_eq_true rfl) rfl (fun ls hl => ?_)
        refine lv_aload_n hx hb dX7_keep_26 rfl (lv_at hl 1 rfl) ?_
        refine va_get (D := D) (ci := 6) (v := .ref h_images) (C := RX7) (T := TX7) (N := 10) hx hb hts hiX7 hown hK hP 0 rfl rfl 2 (Nat.le_of_ble_eq_true rfl) fl19 (fun _ h9 => h9) rfl dX7_keep_27 ?_
        refine lv_iload_n hx hb dX7_keep_30 rfl (lv_at hl 2 rfl) ?_
        refine va_aldq hx hb hK hP 1 4 rfl rfl (hs_in (by decide)) dX7_keep_31 ?_
        refine W.eq (g2 := F0 m 32 ls (.ref im0 :: [])) rfl ?_
        refine lv_aload_n hx hb dX7_keep_32 rfl (lv_at hl 1 rfl) ?_
        refine va_get (D := D) (ci := 6) (v := .ref h_now) (C := RX7) (T := TX7) (N := 10) hx hb hts hiX7 hown hK hP 0 rfl rfl 0 (Nat.le_of_ble_eq_true rfl) fl10 (fun _ h9 => h9) rfl dX7_keep_33 ?_
        refine hs_cvM (va_runV (As := [.ref h_now]) (rest := []) ⟨hx, hb, hml, hown, hts⟩ (g_copyFrom l D k _ im0 i0_a i0_N i0_J i0_F h_now n_a n_N n_J n_F) (cwV 1 hts gX7_keep_X6_copyFrom rfl rfl rfl ⟨rfl, hq_X6_copyFrom⟩ ⟨Nat.le_of_ble_eq_true rfl, Nat.le_of_ble_eq_true rfl⟩) (hs_preV hK hN (hs_subP (w := [_, _, _, _, _, _, _, _, _, _, _, _, _, _, _, _]) hP [11, 12, 13, 14, 15, 16, 17, 18, 3, 4, 5, 6, 7, 8, 9, 10] rfl) (hD.sub (ws' := [_, _, _, _, _, _, _, _, _, _, _, _, _, _, _, _]) [11, 12, 13, 14, 15, 16, 17, 18, 3, 4, 5, 6, 7, 8, 9, 10] (by decide +kernel) rfl) (ci := 5) (q0 := 0) rfl rfl) rfl rfl hl.1 rfl (lv_room (Nat.le_of_ble_eq_true rfl)) dX7_keep_36 ⟨Nat.le_of_ble_eq_true rfl, Nat.le_of_ble_eq_true rfl⟩) hP hD hS hA [true, true, true, false, false, false, false, false, false, false, false, false, false, false, false, false, false, false, false, true, true, true, true, true, true, true, true] [_, _, _, _, _, _, _, _, _, _, _] [_, _, _, _, _, _, _, _, _, _, _, _, _, _, _, _] rfl [8, 9, 10, 11, 12, 13, 14, 15, 0, 1, 2, 3, 4, 5, 6, 7] rfl [8, 9, 10, 11, 12, 13, 14, 15, 0, 1, 2, 3, 4, 5, 6, 7] (fun u_11 => [_, _, _, _, _, _, _, _, _, _, _, _, _, _, _, _]) (fun _ => rfl) (by decide +kernel) [true, true, true, false, false, false, false, false, false, false, false, false, false, false, false, false, false, false, false, true, true, true, true, true, true, true, true] (fun u_11 => [_, _, _, _, _, _, _, _, _, _, _, _, _, _, _, _, _, _, _, _, _, _, _, _, _, _, _]) (fun _ => rfl) (fun u_11 H locs hw_10 hP hD hS => ?_)
        have hw_10 : ∀ q i, i < hs7 q → u_11 q i = n_F q i := hw_10
        refine lv_aload_n hx hb dX7_keep_39 rfl (lv_at hl 1 rfl) ?_
        refine va_get (D := D) (ci := 6) (v := .ref h_imageThere) (C := RX7) (T := TX7) (N := 10) hx hb hts hiX7 hown hK hP 0 rfl rfl 3 (Nat.le_of_ble_eq_true rfl) fl23 (fun _ h9 => h9) rfl dX7_keep_40 ?_
        refine lv_iload_n hx hb dX7_keep_43 rfl (lv_at hl 2 rfl) ?_
        refine lv_iconst (v := 1) hx hb dX7_keep_44 hki_1 ?_
        refine va_zast hx hb hK hP hD hS 2 2 rfl rfl (hs_in (by decide)) dX7_keep_45 (fun H locs hP hD hS => ?_)
        have hP : va_P D vwCl [_, _, oqB k h_imageThere 2 (upd it 0 1), _, _, _, _, _, _, _, _, _, _, _, _, _, _, _, _, _, _, _, _, _, _, _, _] H := hP
        have hD : va_D A [_, _, oqB k h_imageThere 2 (upd it 0 1), _, _, _, _, _, _, _, _, _, _, _, _, _, _, _, _, _, _, _, _, _, _, _, _] := hD
        refine lv_iload_n hx hb dX7_keep_46 rfl (lv_at hl 0 rfl) ?_
        exact hs_iret hx hb hr hlocks hK hP hD hS (upd it 0 1, (n_N, n_J, u_11), (i1_N, i1_J, i1_F)) [0, 1, 2, 3, 4, 5, 6, 7, 8, 9, 10, 11, 12, 13, 14, 15, 16, 17, 18, 19, 20, 21, 22, 23, 24, 25, 26] rfl (hs_upnd rfl) dX7_keep_47 (Or.inr (Or.inl ⟨rfl, by rw [if_neg (show ¬ it 0 = 0 from c_5)], rfl, rfl, rfl, hw_10, rfl⟩))
    · refine lv_aload_n hx hb dX7_keep_11 rfl (lv_at hl 0 rfl) ?_
      refine va_get (D := D) (ci := 6) (v := .ref h_imageThere) (C := RX7) (T := TX7) (N := 10) hx hb hts hiX7 hown hK hP 0 rfl rfl 3 (Nat.le_of_ble_eq_true rfl) fl23 (fun _ h9 => h9) rfl dX7_keep_12 ?_
      refine lv_iload_n hx hb dX7_keep_15 rfl (lv_at hl 1 rfl) ?_
      refine va_zald hx hb hK hP 2 2 rfl rfl (hs_in (by decide)) dX7_keep_16 ?_
      refine lv_if_eq (tgt := 24) hx hb dX7_keep_17 rfl (fun c_12 => ?_) (fun c_12 => ?_)
      · refine lv_iconst (v := 0) hx hb dX7_keep_24 hki_0 ?_
        refine lv_istore_n (lv' := [(2, .int 0), (0, .ref h), (1, .int 1)]) hx hb dX7_keep_25 rfl hl (Nat.le_of_ble_eq_true rfl) rfl (fun ls hl => ?_)
        refine lv_aload_n hx hb dX7_keep_26 rfl (lv_at hl 1 rfl) ?_
        refine va_get (D := D) (ci := 6) (v := .ref h_images) (C := RX7) (T := TX7) (N := 10) hx hb hts hiX7 hown hK hP 0 rfl rfl 2 (Nat.le_of_ble_eq_true rfl) fl19 (fun _ h9 => h9) rfl dX7_keep_27 ?_
        refine lv_iload_n hx hb dX7_keep_30 rfl (lv_at hl 2 rfl) ?_
        refine va_aldq hx hb hK hP 1 4 rfl rfl (hs_in (by decide)) dX7_keep_31 ?_
        refine W.eq (g2 := F0 m 32 ls (.ref im1 :: [])) rfl ?_
        refine lv_aload_n hx hb dX7_keep_32 rfl (lv_at hl 1 rfl) ?_
        refine va_get (D := D) (ci := 6) (v := .ref h_now) (C := RX7) (T := TX7) (N := 10) hx hb hts hiX7 hown hK hP 0 rfl rfl 0 (Nat.le_of_ble_eq_true rfl) fl10 (fun _ h9 => h9) rfl dX7_keep_33 ?_
        refine hs_cvM (va_runV (As := [.ref h_now]) (rest := []) ⟨hx, hb, hml, hown, hts⟩ (g_copyFrom l D k _ im1 i1_a i1_N i1_J i1_F h_now n_a n_N n_J n_F) (cwV 1 hts gX7_keep_X6_copyFrom rfl rfl rfl ⟨rfl, hq_X6_copyFrom⟩ ⟨Nat.le_of_ble_eq_true rfl, Nat.le_of_ble_eq_true rfl⟩) (hs_preV hK hN (hs_subP (w := [_, _, _, _, _, _, _, _, _, _, _, _, _, _, _, _]) hP [19, 20, 21, 22, 23, 24, 25, 26, 3, 4, 5, 6, 7, 8, 9, 10] rfl) (hD.sub (ws' := [_, _, _, _, _, _, _, _, _, _, _, _, _, _, _, _]) [19, 20, 21, 22, 23, 24, 25, 26, 3, 4, 5, 6, 7, 8, 9, 10] (by decide +kernel) rfl) (ci := 5) (q0 := 0) rfl rfl) rfl rfl hl.1 rfl (lv_room (Nat.le_of_ble_eq_true rfl)) dX7_keep_36 ⟨Nat.le_of_ble_eq_true rfl, Nat.le_of_ble_eq_true rfl⟩) hP hD hS hA [true, true, true, false, false, false, false, false, false, false, false, true, true, true, true, true, true, true, true, false, false, false, false, false, false, false, false] [_, _, _, _, _, _, _, _, _, _, _] [_, _, _, _, _, _, _, _, _, _, _, _, _, _, _, _] rfl [8, 9, 10, 11, 12, 13, 14, 15, 0, 1, 2, 3, 4, 5, 6, 7] rfl [8, 9, 10, 11, 12, 13, 14, 15, 0, 1, 2, 3, 4, 5, 6, 7] (fun u_15 => [_, _, _, _, _, _, _, _, _, _, _, _, _, _, _, _]) (fun _ => rfl) (by decide +kernel) [true, true, true, false, false, false, false, false, false, false, false, true, true, true, true, true, true, true, true, false, false, false, false, false, false, false, false] (fun u_15 => [_, _, _, _, _, _, _, _, _, _, _, _, _, _, _, _, _, _, _, _, _, _, _, _, _, _, _]) (fun _ => rfl) (fun u_15 H locs hw_14 hP hD hS => ?_)
        have hw_14 : ∀ q i, i < hs7 q → u_15 q i = n_F q i := hw_14
        refine lv_aload_n hx hb dX7_keep_39 rfl (lv_at hl 1 rfl) ?_
        refine va_get (D := D) (ci := 6) (v := .ref h_imageThere) (C := RX7) (T := TX7) (N := 10) hx hb hts hiX7 hown hK hP 0 rfl rfl 3 (Nat.le_of_ble_eq_true rfl) fl23 (fun _ h9 => h9) rfl dX7_keep_40 ?_
        refine lv_iload_n hx hb dX7_keep_43 rfl (lv_at hl 2 rfl) ?_
        refine lv_iconst (v := 1) hx hb dX7_keep_44 hki_1 ?_
        refine va_zast hx hb hK hP hD hS 2 2 rfl rfl (hs_in (by decide)) dX7_keep_45 (fun H locs hP hD hS => ?_)
        have hP : va_P D vwCl [_, _, oqB k h_imageThere 2 (upd it 1 1), _, _, _, _, _, _, _, _, _, _, _, _, _, _, _, _, _, _, _, _, _, _, _, _] H := hP
        have hD : va_D A [_, _, oqB k h_imageThere 2 (upd it 1 1), _, _, _, _, _, _, _, _, _, _, _, _, _, _, _, _, _, _, _, _, _, _, _, _] := hD
        refine lv_iload_n hx hb dX7_keep_46 rfl (lv_at hl 0 rfl) ?_
        exact hs_iret hx hb hr hlocks hK hP hD hS (upd it 1 1, (i0_N, i0_J, i0_F), (n_N, n_J, u_15)) [0, 1, 2, 3, 4, 5, 6, 7, 8, 9, 10, 11, 12, 13, 14, 15, 16, 17, 18, 19, 20, 21, 22, 23, 24, 25, 26] rfl (hs_upnd rfl) dX7_keep_47 (Or.inr (Or.inr ⟨rfl, by rw [if_pos (show it 1 = 0 from c_12)], rfl, rfl, rfl, hw_14, rfl⟩))
      · refine lv_iconst (v := 1) hx hb dX7_keep_20 hki_1 ?_
        refine lv_goto (tgt := 25) hx hb dX7_keep_21 rfl ?_
        refine lv_istore_n (lv' := [(2, .int 1), (0, .ref h), (1, .int 1)]) hx hb dX7_keep_25 rfl hl (Nat.le_of_ble_eq_true rfl) rfl (fun ls hl => ?_)
        refine lv_aload_n hx hb dX7_keep_26 rfl (lv_at hl 1 rfl) ?_
        refine va_get (D := D) (ci := 6) (v := .ref h_images) (C := RX7) (T := TX7) (N := 10) hx hb hts hiX7 hown hK hP 0 rfl rfl 2 (Nat.le_of_ble_eq_true rfl) fl19 (fun _ h9 => h9) rfl dX7_keep_27 ?_
        refine lv_iload_n hx hb dX7_keep_30 rfl (lv_at hl 2 rfl) ?_
        refine va_aldq hx hb hK hP 1 4 rfl rfl (hs_in (by decide)) dX7_keep_31 ?_
        refine W.eq (g2 := F0 m 32 ls (.ref im1 :: [])) rfl ?_
        refine lv_aload_n hx hb dX7_keep_32 rfl (lv_at hl 1 rfl) ?_
        refine va_get (D := D) (ci := 6) (v := .ref h_now) (C := RX7) (T := TX7) (N := 10) hx hb hts hiX7 hown hK hP 0 rfl rfl 0 (Nat.le_of_ble_eq_true rfl) fl10 (fun _ h9 => h9) rfl dX7_keep_33 ?_
        refine hs_cvM (va_runV (As := [.ref h_now]) (rest := []) ⟨hx, hb, hml, hown, hts⟩ (g_copyFrom l D k _ im1 i1_a i1_N i1_J i1_F h_now n_a n_N n_J n_F) (cwV 1 hts gX7_keep_X6_copyFrom rfl rfl rfl ⟨rfl, hq_X6_copyFrom⟩ ⟨Nat.le_of_ble_eq_true rfl, Nat.le_of_ble_eq_true rfl⟩) (hs_preV hK hN (hs_subP (w := [_, _, _, _, _, _, _, _, _, _, _, _, _, _, _, _]) hP [19, 20, 21, 22, 23, 24, 25, 26, 3, 4, 5, 6, 7, 8, 9, 10] rfl) (hD.sub (ws' := [_, _, _, _, _, _, _, _, _, _, _, _, _, _, _, _]) [19, 20, 21, 22, 23, 24, 25, 26, 3, 4, 5, 6, 7, 8, 9, 10] (by decide +kernel) rfl) (ci := 5) (q0 := 0) rfl rfl) rfl rfl hl.1 rfl (lv_room (Nat.le_of_ble_eq_true rfl)) dX7_keep_36 ⟨Nat.le_of_ble_eq_true rfl, Nat.le_of_ble_eq_true rfl⟩) hP hD hS hA [true, true, true, false, false, false, false, false, false, false, false, true, true, true, true, true, true, true, true, false, false, false, false, false, false, false, false] [_, _, _, _, _, _, _, _, _, _, _] [_, _, _, _, _, _, _, _, _, _, _, _, _, _, _, _] rfl [8, 9, 10, 11, 12, 13, 14, 15, 0, 1, 2, 3, 4, 5, 6, 7] rfl [8, 9, 10, 11, 12, 13, 14, 15, 0, 1, 2, 3, 4, 5, 6, 7] (fun u_18 => [_, _, _, _, _, _, _, _, _, _, _, _, _, _, _, _]) (fun _ => rfl) (by decide +kernel) [true, true, true, false, false, false, false, false, false, false, false, true, true, true, true, true, true, true, true, false, false, false, false, false, false, false, false] (fun u_18 => [_, _, _, _, _, _, _, _, _, _, _, _, _, _, _, _, _, _, _, _, _, _, _, _, _, _, _]) (fun _ => rfl) (fun u_18 H locs hw_17 hP hD hS => ?_)
        have hw_17 : ∀ q i, i < hs7 q → u_18 q i = n_F q i := hw_17
        refine lv_aload_n hx hb dX7_keep_39 rfl (lv_at hl 1 rfl) ?_
        refine va_get (D := D) (ci := 6) (v := .ref h_imageThere) (C := RX7) (T := TX7) (N := 10) hx hb hts hiX7 hown hK hP 0 rfl rfl 3 (Nat.le_of_ble_eq_true rfl) fl23 (fun _ h9 => h9) rfl dX7_keep_40 ?_
        refine lv_iload_n hx hb dX7_keep_43 rfl (lv_at hl 2 rfl) ?_
        refine lv_iconst (v := 1) hx hb dX7_keep_44 hki_1 ?_
        refine va_zast hx hb hK hP hD hS 2 2 rfl rfl (hs_in (by decide)) dX7_keep_45 (fun H locs hP hD hS => ?_)
        have hP : va_P D vwCl [_, _, oqB k h_imageThere 2 (upd it 1 1), _, _, _, _, _, _, _, _, _, _, _, _, _, _, _, _, _, _, _, _, _, _, _, _] H := hP
        have hD : va_D A [_, _, oqB k h_imageThere 2 (upd it 1 1), _, _, _, _, _, _, _, _, _, _, _, _, _, _, _, _, _, _, _, _, _, _, _, _] := hD
        refine lv_iload_n hx hb dX7_keep_46 rfl (lv_at hl 0 rfl) ?_
        exact hs_iret hx hb hr hlocks hK hP hD hS (upd it 1 1, (i0_N, i0_J, i0_F), (n_N, n_J, u_18)) [0, 1, 2, 3, 4, 5, 6, 7, 8, 9, 10, 11, 12, 13, 14, 15, 16, 17, 18, 19, 20, 21, 22, 23, 24, 25, 26] rfl (hs_upnd rfl) dX7_keep_47 (Or.inr (Or.inr ⟨rfl, by rw [if_neg (show ¬ it 1 = 0 from c_12)], rfl, rfl, rfl, hw_17, rfl⟩))
  · refine lv_iconst (v := (-1)) hx hb dX7_keep_9 hki_m1 ?_
    exact hs_iret hx hb hr hlocks hK hP hD hS (it, (i0_N, i0_J, i0_F), (i1_N, i1_J, i1_F)) [0, 1, 2, 3, 4, 5, 6, 7, 8, 9, 10, 11, 12, 13, 14, 15, 16, 17, 18, 19, 20, 21, 22, 23, 24, 25, 26] rfl (hs_upnd rfl) dX7_keep_10 (Or.inl ⟨hs_n0 c_4, rfl, rfl⟩)

set_option maxHeartbeats 4000000 in
set_option maxRecDepth 100000 in
theorem gpf_back (l : Launch) (D : va_G) (k : Nat → ClassId) (sz : Nat) (h : Nat) (h_now : Nat) (h_trial : Nat) (h_images : Nat) (h_imageThere : Nat) (h_teller : Nat) (h_ranks : Nat) (h_court : Nat) (h_sheets : Nat) (h_lf : Int32) (h_lt : Int32) (it : Nat → Int32) (n_a : Nat → Nat) (n_N : Nat → Nat) (n_J : Nat → Int32) (n_F : Nat → Nat → Int32) (im0 : Nat) (i0_a : Nat → Nat) (i0_N : Nat → Nat) (i0_J : Nat → Int32) (i0_F : Nat → Nat → Int32) (im1 : Nat) (i1_a : Nat → Nat) (i1_N : Nat → Nat) (i1_J : Nat → Int32) (i1_F : Nat → Nat → Int32) (i : Int32)  : MI l yX7_back wsX7_back ({ frames := 2, cells := 0, slots := 0, locals := 81 }) D k [.ref h, .int i] [oq6 h h_now h_trial h_images h_imageThere h_teller h_ranks h_court h_sheets h_lf h_lt, (h_images, .inl (k 4, 2, .inr (.inr (.inr (.inr (va_up (va_up (fun _ => none) 0 (some im0)) 1 (some im1))))))), oqB k h_imageThere 2 (it), oqT h_now n_a n_N n_J, oqF0 k n_a n_F, oqF1 k n_a n_F, oqF2 k n_a n_F, oqF3 k n_a n_F, oqF4 k n_a n_F, oqF5 k n_a n_F, oqF6 k n_a n_F, oqT im0 i0_a i0_N i0_J, oqF0 k i0_a i0_F, oqF1 k i0_a i0_F, oqF2 k i0_a i0_F, oqF3 k i0_a i0_F, oqF4 k i0_a i0_F, oqF5 k i0_a i0_F, oqF6 k i0_a i0_F, oqT im1 i1_a i1_N i1_J, oqF0 k i1_a i1_F, oqF1 k i1_a i1_F, oqF2 k i1_a i1_F, oqF3 k i1_a i1_F, oqF4 k i1_a i1_F, oqF5 k i1_a i1_F, oqF6 k i1_a i1_F] sz (fun (r : Int32) (u : (Nat → Nat) × (Nat → Int32) × (Nat → Nat → Int32)) => cBa it (n_N, n_J, n_F) (i0_N, i0_J, i0_F) (i1_N, i1_J, i1_F) i r u) (fun (u : (Nat → Nat) × (Nat → Int32) × (Nat → Nat → Int32)) => [oq6 h h_now h_trial h_images h_imageThere h_teller h_ranks h_court h_sheets h_lf h_lt, (h_images, .inl (k 4, 2, .inr (.inr (.inr (.inr (va_up (va_up (fun _ => none) 0 (some im0)) 1 (some im1))))))), oqB k h_imageThere 2 (it), oqT h_now n_a u.1 u.2.1, oqF0 k n_a u.2.2, oqF1 k n_a u.2.2, oqF2 k n_a u.2.2, oqF3 k n_a u.2.2, oqF4 k n_a u.2.2, oqF5 k n_a u.2.2, oqF6 k n_a u.2.2, oqT im0 i0_a i0_N i0_J, oqF0 k i0_a i0_F, oqF1 k i0_a i0_F, oqF2 k i0_a i0_F, oqF3 k i0_a i0_F, oqF4 k i0_a i0_F, oqF5 k i0_a i0_F, oqF6 k i0_a i0_F, oqT im1 i1_a i1_N i1_J, oqF0 k i1_a i1_F, oqF1 k i1_a i1_F, oqF2 k i1_a i1_F, oqF3 k i1_a i1_F, oqF4 k i1_a i1_F, oqF5 k i1_a i1_F, oqF6 k i1_a i1_F]) := by
  refine Met.ofW (cc := cX7_back) (maxL := 2) (ret := (some .int)) hpn_X7 rfl ?_
  intro p e s m args below meth c s₁ B hml hv
  obtain ⟨rfl, hsz, hP, hK, hD0, hN⟩ := hv
  have hx := B.exec
  have hb := B.bytes
  have hr := B.returns
  have hlocks := B.notSynchronized
  have hts := atoms_spec (ws := wsX7_back) B.pre
  have hown := findClass_of_methodNamed B.named
  have hown : s.vm.findClass RX7 = some m.cls := hown
  have hiX6 : ∀ w ∈ u_ws RX6 TX6 15, w ∈ wsX7_back := fun w9 hw9 => List.mem_cons_of_mem _ (igX6 w9 hw9)
  have hiX7 : ∀ w ∈ u_ws RX7 TX7 10, w ∈ wsX7_back := fun w9 hw9 => List.mem_cons_of_mem _ (igX7 w9 hw9)
  have fl23 := hts (.fieldLink RX7 23 "HalfScales" "imageThere" "[Z") (List.mem_cons_of_mem _ (hs_inG 1 218 rfl rfl))
  have fl10 := hts (.fieldLink RX7 10 "HalfScales" "now" "LHalfScales$Thing;") (List.mem_cons_of_mem _ (hs_inG 1 215 rfl rfl))
  have fl19 := hts (.fieldLink RX7 19 "HalfScales" "images" "[LHalfScales$Thing;") (List.mem_cons_of_mem _ (hs_inG 1 217 rfl rfl))
  have fl93 := hts (.fieldLink RX7 93 "HalfScales$Thing" "cellCount" "I") (List.mem_cons_of_mem _ (hs_inG 1 53 rfl rfl))
  subst hsz
  have hD := hD0.self (sz := s.heap.size)
  generalize hAe : va_A [oq6 h h_now h_trial h_images h_imageThere h_teller h_ranks h_court h_sheets h_lf h_lt, (h_images, .inl (k 4, 2, .inr (.inr (.inr (.inr (va_up (va_up (fun _ => none) 0 (some im0)) 1 (some im1))))))), oqB k h_imageThere 2 (it), oqT h_now n_a n_N n_J, oqF0 k n_a n_F, oqF1 k n_a n_F, oqF2 k n_a n_F, oqF3 k n_a n_F, oqF4 k n_a n_F, oqF5 k n_a n_F, oqF6 k n_a n_F, oqT im0 i0_a i0_N i0_J, oqF0 k i0_a i0_F, oqF1 k i0_a i0_F, oqF2 k i0_a i0_F, oqF3 k i0_a i0_F, oqF4 k i0_a i0_F, oqF5 k i0_a i0_F, oqF6 k i0_a i0_F, oqT im1 i1_a i1_N i1_J, oqF0 k i1_a i1_F, oqF1 k i1_a i1_F, oqF2 k i1_a i1_F, oqF3 k i1_a i1_F, oqF4 k i1_a i1_F, oqF5 k i1_a i1_F, oqF6 k i1_a i1_F] s.heap.size = A at hD ⊢
  have hA : ∀ q : Nat, s.heap.size ≤ q → A q := fun q h => by rw [← hAe]; exact Or.inr h
  have hS : va_S A s.heap s.heap [] := va_S.rf
  have hl := lv_entry ([.ref h, .int i]) (n := 2) (Nat.le_of_ble_eq_true rfl)
  rw [lg_entry_eq]
  generalize (lg_sl ([.ref h, .int i]) ++ List.replicate (2 - (lg_sl ([.ref h, .int i])).length) Slot.unset).toArray = ls at hl ⊢
  have hl : lv_has ls 2 [(0, .ref h), (1, .int i)] := hl
  have hP : va_P D vwCl [oq6 h h_now h_trial h_images h_imageThere h_teller h_ranks h_court h_sheets h_lf h_lt, (h_images, .inl (k 4, 2, .inr (.inr (.inr (.inr (va_up (va_up (fun _ => none) 0 (some im0)) 1 (some im1))))))), oqB k h_imageThere 2 (it), oqT h_now n_a n_N n_J, oqF0 k n_a n_F, oqF1 k n_a n_F, oqF2 k n_a n_F, oqF3 k n_a n_F, oqF4 k n_a n_F, oqF5 k n_a n_F, oqF6 k n_a n_F, oqT im0 i0_a i0_N i0_J, oqF0 k i0_a i0_F, oqF1 k i0_a i0_F, oqF2 k i0_a i0_F, oqF3 k i0_a i0_F, oqF4 k i0_a i0_F, oqF5 k i0_a i0_F, oqF6 k i0_a i0_F, oqT im1 i1_a i1_N i1_J, oqF0 k i1_a i1_F, oqF1 k i1_a i1_F, oqF2 k i1_a i1_F, oqF3 k i1_a i1_F, oqF4 k i1_a i1_F, oqF5 k i1_a i1_F, oqF6 k i1_a i1_F] s.heap := hP
  refine lv_iload_n hx hb dX7_back_0 rfl (lv_at hl 1 rfl) ?_
  refine lv_iconst (v := 0) hx hb dX7_back_1 hki_0 ?_
  refine lv_iconst (v := 1) hx hb dX7_back_2 hki_1 ?_
  refine hs_pi (va_runS (As := [.int i, .int 0, .int 1]) (rest := []) ⟨hx, hb, hml, hown, hts⟩ (g_within l D k _ i 0 1) (va_cwS 3 hts gX7_back_X7_within rfl rfl rfl hq_X7_within ⟨Nat.le_of_ble_eq_true rfl, Nat.le_of_ble_eq_true rfl⟩) (hs_preS hK hN (hs_subP (w := []) hP [] rfl) (hD.sub (ws' := []) [] rfl rfl)) rfl rfl hl.1 rfl (lv_room (Nat.le_of_ble_eq_true rfl)) dX7_back_3 ⟨Nat.le_of_ble_eq_true rfl, Nat.le_of_ble_eq_true rfl⟩) hP hD hS hA (fun r_1 u_3 H locs hw_2 hP hS => ?_)
  refine hs_topi (hsb (hsin i 0 1)) hw_2 ?_
  refine lv_if_ne (tgt := 11) hx hb dX7_back_6 rfl (fun c_4 => ?_) (fun c_4 => ?_)
  · rcases hs_v01 (hs_nb c_4) with rfl | rfl
    · refine lv_aload_n hx hb dX7_back_11 rfl (lv_at hl 0 rfl) ?_
      refine va_get (D := D) (ci := 6) (v := .ref h_imageThere) (C := RX7) (T := TX7) (N := 10) hx hb hts hiX7 hown hK hP 0 rfl rfl 3 (Nat.le_of_ble_eq_true rfl) fl23 (fun _ h9 => h9) rfl dX7_back_12 ?_
      refine lv_iload_n hx hb dX7_back_15 rfl (lv_at hl 1 rfl) ?_
      refine va_zald hx hb hK hP 2 2 rfl rfl (hs_in (by decide)) dX7_back_16 ?_
      refine lv_if_ne (tgt := 23) hx hb dX7_back_17 rfl (fun c_5 => ?_) (fun c_5 => ?_)
      · refine lv_aload_n hx hb dX7_back_23 rfl (lv_at hl 0 rfl) ?_
        refine va_get (D := D) (ci := 6) (v := .ref h_now) (C := RX7) (T := TX7) (N := 10) hx hb hts hiX7 hown hK hP 0 rfl rfl 0 (Nat.le_of_ble_eq_true rfl) fl10 (fun _ h9 => h9) rfl dX7_back_24 ?_
        refine lv_aload_n hx hb dX7_back_27 rfl (lv_at hl 0 rfl) ?_
        refine va_get (D := D) (ci := 6) (v := .ref h_images) (C := RX7) (T := TX7) (N := 10) hx hb hts hiX7 hown hK hP 0 rfl rfl 2 (Nat.le_of_ble_eq_true rfl) fl19 (fun _ h9 => h9) rfl dX7_back_28 ?_
        refine lv_iload_n hx hb dX7_back_31 rfl (lv_at hl 1 rfl) ?_
        refine va_aldq hx hb hK hP 1 4 rfl rfl (hs_in (by decide)) dX7_back_32 ?_
        refine W.eq (g2 := F0 m 33 ls (.ref im0 :: .ref h_now :: [])) rfl ?_
        refine hs_cvM (va_runV (As := [.ref im0]) (rest := []) ⟨hx, hb, hml, hown, hts⟩ (g_copyFrom l D k _ h_now n_a n_N n_J n_F im0 i0_a i0_N i0_J i0_F) (cwV 1 hts gX7_back_X6_copyFrom rfl rfl rfl ⟨rfl, hq_X6_copyFrom⟩ ⟨Nat.le_of_ble_eq_true rfl, Nat.le_of_ble_eq_true rfl⟩) (hs_preV hK hN (hs_subP (w := [_, _, _, _, _, _, _, _, _, _, _, _, _, _, _, _]) hP [3, 4, 5, 6, 7, 8, 9, 10, 11, 12, 13, 14, 15, 16, 17, 18] rfl) (hD.sub (ws' := [_, _, _, _, _, _, _, _, _, _, _, _, _, _, _, _]) [3, 4, 5, 6, 7, 8, 9, 10, 11, 12, 13, 14, 15, 16, 17, 18] (hs_upnd rfl) rfl) (ci := 5) (q0 := 0) rfl rfl) rfl rfl hl.1 rfl (lv_room (Nat.le_of_ble_eq_true rfl)) dX7_back_33 ⟨Nat.le_of_ble_eq_true rfl, Nat.le_of_ble_eq_true rfl⟩) hP hD hS hA [true, true, true, false, false, false, false, false, false, false, false, false, false, false, false, false, false, false, false, true, true, true, true, true, true, true, true] [_, _, _, _, _, _, _, _, _, _, _] [_, _, _, _, _, _, _, _, _, _, _, _, _, _, _, _] rfl [0, 1, 2, 3, 4, 5, 6, 7, 8, 9, 10, 11, 12, 13, 14, 15] rfl [0, 1, 2, 3, 4, 5, 6, 7, 8, 9, 10, 11, 12, 13, 14, 15] (fun u_8 => [_, _, _, _, _, _, _, _, _, _, _, _, _, _, _, _]) (fun _ => rfl) (hs_upnd rfl) [true, true, true, false, false, false, false, false, false, false, false, false, false, false, false, false, false, false, false, true, true, true, true, true, true, true, true] (fun u_8 => [_, _, _, _, _, _, _, _, _, _, _, _, _, _, _, _, _, _, _, _, _, _, _, _, _, _, _]) (fun _ => rfl) (fun u_8 H locs hw_7 hP hD hS => ?_)
        have hw_7 : ∀ q i, i < hs7 q → u_8 q i = i0_F q i := hw_7
        refine lv_aload_n hx hb dX7_back_36 rfl (lv_at hl 0 rfl) ?_
        refine va_get (D := D) (ci := 6) (v := .ref h_now) (C := RX7) (T := TX7) (N := 10) hx hb hts hiX7 hown hK hP 0 rfl rfl 0 (Nat.le_of_ble_eq_true rfl) fl10 (fun _ h9 => h9) rfl dX7_back_37 ?_
        refine va_get (D := D) (ci := 5) (v := .int (nI (i0_N 0))) (C := RX6) (T := TX6) (N := 15) hx hb hts hiX6 hown hK hP 3 rfl rfl 7 (Nat.le_of_ble_eq_true rfl) fl93 (fun _ h9 => h9) rfl dX7_back_40 ?_
        exact hs_iret hx hb hr hlocks hK hP hD hS (i0_N, i0_J, u_8) [0, 1, 2, 3, 4, 5, 6, 7, 8, 9, 10, 11, 12, 13, 14, 15, 16, 17, 18, 19, 20, 21, 22, 23, 24, 25, 26] rfl (hs_upnd rfl) dX7_back_43 (Or.inr (Or.inl ⟨rfl, Or.inr ⟨c_5, rfl, rfl, rfl, hw_7⟩⟩))
      · refine lv_bipush (v := (-2)) hx hb dX7_back_20 hkb_m2 ?_
        exact hs_iret hx hb hr hlocks hK hP hD hS (n_N, n_J, n_F) [0, 1, 2, 3, 4, 5, 6, 7, 8, 9, 10, 11, 12, 13, 14, 15, 16, 17, 18, 19, 20, 21, 22, 23, 24, 25, 26] rfl (hs_upnd rfl) dX7_back_22 (Or.inr (Or.inl ⟨rfl, Or.inl ⟨c_5, rfl, rfl⟩⟩))
    · refine lv_aload_n hx hb dX7_back_11 rfl (lv_at hl 0 rfl) ?_
      refine va_get (D := D) (ci := 6) (v := .ref h_imageThere) (C := RX7) (T := TX7) (N := 10) hx hb hts hiX7 hown hK hP 0 rfl rfl 3 (Nat.le_of_ble_eq_true rfl) fl23 (fun _ h9 => h9) rfl dX7_back_12 ?_
      refine lv_iload_n hx hb dX7_back_15 rfl (lv_at hl 1 rfl) ?_
      refine va_zald hx hb hK hP 2 2 rfl rfl (hs_in (by decide)) dX7_back_16 ?_
      refine lv_if_ne (tgt := 23) hx hb dX7_back_17 rfl (fun c_9 => ?_) (fun c_9 => ?_)
      · refine lv_aload_n hx hb dX7_back_23 rfl (lv_at hl 0 rfl) ?_
        refine va_get (D := D) (ci := 6) (v := .ref h_now) (C := RX7) (T := TX7) (N := 10) hx hb hts hiX7 hown hK hP 0 rfl rfl 0 (Nat.le_of_ble_eq_true rfl) fl10 (fun _ h9 => h9) rfl dX7_back_24 ?_
        refine lv_aload_n hx hb dX7_back_27 rfl (lv_at hl 0 rfl) ?_
        refine va_get (D := D) (ci := 6) (v := .ref h_images) (C := RX7) (T := TX7) (N := 10) hx hb hts hiX7 hown hK hP 0 rfl rfl 2 (Nat.le_of_ble_eq_true rfl) fl19 (fun _ h9 => h9) rfl dX7_back_28 ?_
        refine lv_iload_n hx hb dX7_back_31 rfl (lv_at hl 1 rfl) ?_
        refine va_aldq hx hb hK hP 1 4 rfl rfl (hs_in (by decide)) dX7_back_32 ?_
        refine W.eq (g2 := F0 m 33 ls (.ref im1 :: .ref h_now :: [])) rfl ?_
        refine hs_cvM (va_runV (As := [.ref im1]) (rest := []) ⟨hx, hb, hml, hown, hts⟩ (g_copyFrom l D k _ h_now n_a n_N n_J n_F im1 i1_a i1_N i1_J i1_F) (cwV 1 hts gX7_back_X6_copyFrom rfl rfl rfl ⟨rfl, hq_X6_copyFrom⟩ ⟨Nat.le_of_ble_eq_true rfl, Nat.le_of_ble_eq_true rfl⟩) (hs_preV hK hN (hs_subP (w := [_, _, _, _, _, _, _, _, _, _, _, _, _, _, _, _]) hP [3, 4, 5, 6, 7, 8, 9, 10, 19, 20, 21, 22, 23, 24, 25, 26] rfl) (hD.sub (ws' := [_, _, _, _, _, _, _, _, _, _, _, _, _, _, _, _]) [3, 4, 5, 6, 7, 8, 9, 10, 19, 20, 21, 22, 23, 24, 25, 26] (hs_upnd rfl) rfl) (ci := 5) (q0 := 0) rfl rfl) rfl rfl hl.1 rfl (lv_room (Nat.le_of_ble_eq_true rfl)) dX7_back_33 ⟨Nat.le_of_ble_eq_true rfl, Nat.le_of_ble_eq_true rfl⟩) hP hD hS hA [true, true, true, false, false, false, false, false, false, false, false, true, true, true, true, true, true, true, true, false, false, false, false, false, false, false, false] [_, _, _, _, _, _, _, _, _, _, _] [_, _, _, _, _, _, _, _, _, _, _, _, _, _, _, _] rfl [0, 1, 2, 3, 4, 5, 6, 7, 8, 9, 10, 11, 12, 13, 14, 15] rfl [0, 1, 2, 3, 4, 5, 6, 7, 8, 9, 10, 11, 12, 13, 14, 15] (fun u_12 => [_, _, _, _, _, _, _, _, _, _, _, _, _, _, _, _]) (fun _ => rfl) (hs_upnd rfl) [true, true, true, false, false, false, false, false, false, false, false, true, true, true, true, true, true, true, true, false, false, false, false, false, false, false, false] (fun u_12 => [_, _, _, _, _, _, _, _, _, _, _, _, _, _, _, _, _, _, _, _, _, _, _, _, _, _, _]) (fun _ => rfl) (fun u_12 H locs hw_11 hP hD hS => ?_)
        have hw_11 : ∀ q i, i < hs7 q → u_12 q i = i1_F q i := hw_11
        refine lv_aload_n hx hb dX7_back_36 rfl (lv_at hl 0 rfl) ?_
        refine va_get (D := D) (ci := 6) (v := .ref h_now) (C := RX7) (T := TX7) (N := 10) hx hb hts hiX7 hown hK hP 0 rfl rfl 0 (Nat.le_of_ble_eq_true rfl) fl10 (fun _ h9 => h9) rfl dX7_back_37 ?_
        refine va_get (D := D) (ci := 5) (v := .int (nI (i1_N 0))) (C := RX6) (T := TX6) (N := 15) hx hb hts hiX6 hown hK hP 3 rfl rfl 7 (Nat.le_of_ble_eq_true rfl) fl93 (fun _ h9 => h9) rfl dX7_back_40 ?_
        exact hs_iret hx hb hr hlocks hK hP hD hS (i1_N, i1_J, u_12) [0, 1, 2, 3, 4, 5, 6, 7, 8, 9, 10, 11, 12, 13, 14, 15, 16, 17, 18, 19, 20, 21, 22, 23, 24, 25, 26] rfl (hs_upnd rfl) dX7_back_43 (Or.inr (Or.inr ⟨rfl, Or.inr ⟨c_9, rfl, rfl, rfl, hw_11⟩⟩))
      · refine lv_bipush (v := (-2)) hx hb dX7_back_20 hkb_m2 ?_
        exact hs_iret hx hb hr hlocks hK hP hD hS (n_N, n_J, n_F) [0, 1, 2, 3, 4, 5, 6, 7, 8, 9, 10, 11, 12, 13, 14, 15, 16, 17, 18, 19, 20, 21, 22, 23, 24, 25, 26] rfl (hs_upnd rfl) dX7_back_22 (Or.inr (Or.inr ⟨rfl, Or.inl ⟨c_9, rfl, rfl⟩⟩))
  · refine lv_iconst (v := (-1)) hx hb dX7_back_9 hki_m1 ?_
    exact hs_iret hx hb hr hlocks hK hP hD hS (n_N, n_J, n_F) [0, 1, 2, 3, 4, 5, 6, 7, 8, 9, 10, 11, 12, 13, 14, 15, 16, 17, 18, 19, 20, 21, 22, 23, 24, 25, 26] rfl (hs_upnd rfl) dX7_back_10 (Or.inl ⟨hs_n0 c_4, rfl, rfl⟩)

set_option maxHeartbeats 4000000 in
set_option maxRecDepth 100000 in
theorem gf_renew (l : Launch) (D : va_G) (k : Nat → ClassId) (sz : Nat) (q : Nat) (q_row : Nat) (q_la : Int32) (q_z : Nat) (la : Int32) (n : Nat) (rf : Nat → Int32)  : MV l yX3_renew wsX3_renew ({ frames := 0, cells := 0, slots := 0, locals := 0 }) D k [.ref q, .int la, .int (nI n)] [oq2 q q_row q_la (nI q_z), oqI k q_row 40 (rf)] sz (fun (u : Nat → Int32) => ∀ j, j < 40 → u j = 0) (fun (u : Nat → Int32) => [oq2 q q_row la (nI n), oqI k q_row 40 (u)]) := by
  refine Met.ofW (cc := cX3_renew) (maxL := 4) (ret := none) hpn_X3 rfl ?_
  intro p e s m args below meth c s₁ B hml hv
  obtain ⟨rfl, hsz, hP, hK, hD0, hN⟩ := hv
  have hx := B.exec
  have hb := B.bytes
  have hr := B.returns
  have hlocks := B.notSynchronized
  have hts := atoms_spec (ws := wsX3_renew) B.pre
  have hown := findClass_of_methodNamed B.named
  have hown : s.vm.findClass RX3 = some m.cls := hown
  have hiX3 : ∀ w ∈ u_ws RX3 TX3 3, w ∈ wsX3_renew := fun w9 hw9 => List.mem_cons_of_mem _ (igX3 w9 hw9)
  have fl13 := hts (.fieldLink RX3 13 "HalfScales$Sheet" "laneOf" "I") (List.mem_cons_of_mem _ (hs_inG 1 205 rfl rfl))
  have fl23 := hts (.fieldLink RX3 23 "HalfScales$Sheet" "size" "I") (List.mem_cons_of_mem _ (hs_inG 1 206 rfl rfl))
  have fl9 := hts (.fieldLink RX3 9 "HalfScales$Sheet" "row" "[I") (List.mem_cons_of_mem _ (hs_inG 1 204 rfl rfl))
  subst hsz
  have hD := hD0.self (sz := s.heap.size)
  generalize hAe : va_A [oq2 q q_row q_la (nI q_z), oqI k q_row 40 (rf)] s.heap.size = A at hD ⊢
  have hA : ∀ q : Nat, s.heap.size ≤ q → A q := fun q h => by rw [← hAe]; exact Or.inr h
  have hS : va_S A s.heap s.heap [] := va_S.rf
  have hl := lv_entry ([.ref q, .int la, .int (nI n)]) (n := 4) (Nat.le_of_ble_eq_true rfl)
  rw [lg_entry_eq]
  generalize (lg_sl ([.ref q, .int la, .int (nI n)]) ++ List.replicate (4 - (lg_sl ([.ref q, .int la, .int (nI n)])).length) Slot.unset).toArray = ls at hl ⊢
  have hl : lv_has ls 4 [(0, .ref q), (1, .int la), (2, .int (nI n))] := hl
  have hP : va_P D vwCl [oq2 q q_row q_la (nI q_z), oqI k q_row 40 (rf)] s.heap := hP
  refine lv_aload_n hx hb dX3_renew_0 rfl (lv_at hl 0 rfl) ?_
  refine lv_iload_n hx hb dX3_renew_1 rfl (lv_at hl 1 rfl) ?_
  refine va_put (D := D) (ci := 2) (v := .int la) (ty := .int) (C := RX3) (T := TX3) (N := 3) hx hb hts hiX3 tyX3 tyX3_ok nmX3 hown hK hP hD hS 0 rfl rfl 1 (Nat.le_of_ble_eq_true rfl) fl13 (fun _ h9 => h9) rfl (by decide +kernel) rfl rfl (Nat.le_of_ble_eq_true rfl) dX3_renew_2 (fun H locs hP hD hS => ?_)
  have hP : va_P D vwCl [oq2 q q_row la (nI q_z), oqI k q_row 40 (rf)] H := hP
  have hD : va_D A [oq2 q q_row la (nI q_z), oqI k q_row 40 (rf)] := hD
  refine lv_aload_n hx hb dX3_renew_5 rfl (lv_at hl 0 rfl) ?_
  refine lv_iload_n hx hb dX3_renew_6 rfl (lv_at hl 2 rfl) ?_
  refine va_put (D := D) (ci := 2) (v := .int (nI n)) (ty := .int) (C := RX3) (T := TX3) (N := 3) hx hb hts hiX3 tyX3 tyX3_ok nmX3 hown hK hP hD hS 0 rfl rfl 2 (Nat.le_of_ble_eq_true rfl) fl23 (fun _ h9 => h9) rfl (by decide +kernel) rfl rfl (Nat.le_of_ble_eq_true rfl) dX3_renew_7 (fun H locs hP hD hS => ?_)
  have hP : va_P D vwCl [oq2 q q_row la (nI n), _] H := hP
  have hD : va_D A [oq2 q q_row la (nI n), _] := hD
  refine lv_iconst (v := 0) hx hb dX3_renew_10 hki_0 ?_
  refine lv_istore_n (lv' := [(3, .int 0), (0, .ref q), (1, .int la), (2, .int (nI n))]) hx hb dX3_renew_11 rfl hl (Nat.le_of_ble_eq_true rfl) rfl (fun ls hl => ?_)
  refine hs_while (σ := Nat × (Nat → Int32)) (fun x => x.1 ≤ 40 ∧ ∀ j, j < x.1 → x.2 j = 0) (fun x => 40 - x.1) (fun x => [oq2 q q_row la (nI n), oqI k q_row 40 ((x.2))]) (fun x => [(3, .int (nI (x.1))), (0, .ref q), (1, .int la), (2, .int (nI n))]) ?_ (0, rf) ?_ hP hD hS hl
  · intro x hI ih12 H locs ls hP hD hS hl
    obtain ⟨i, rf2⟩ := x
    try dsimp only at hI
    have hP : va_P D vwCl [_, oqI k q_row 40 (rf2)] H := hP
    have hD : va_D A [_, oqI k q_row 40 (rf2)] := hD
    have hl : lv_has ls 4 [(3, .int (nI i)), (0, .ref q), (1, .int la), (2, .int (nI n))] := hl
    refine lv_iload_n hx hb dX3_renew_12 rfl (lv_at hl 0 rfl) ?_
    refine lv_bipush (v := 40) hx hb dX3_renew_13 hkb_40 ?_
    refine lv_icmp_ge (tgt := 31) hx hb dX3_renew_15 rfl (fun c_1 => ?_) (fun c_1 => ?_)
    · have nc_1 : 40 ≤ i := (nI_leI (a := 40) (b := i) (by omega) (by omega)).mp c_1
      exact hs_vret hx hb hr hlocks hK hP hD hS rf2 [0, 1] rfl (hs_upnd rfl) dX3_renew_31 (fun j hj => hI.2 j (by omega))
    · have nc_1 : ¬ 40 ≤ i := fun hq9 => c_1 ((nI_leI (a := 40) (b := i) (by omega) (by omega)).mpr hq9)
      refine lv_aload_n hx hb dX3_renew_18 rfl (lv_at hl 1 rfl) ?_
      refine va_get (D := D) (ci := 2) (v := .ref q_row) (C := RX3) (T := TX3) (N := 3) hx hb hts hiX3 hown hK hP 0 rfl rfl 0 (Nat.le_of_ble_eq_true rfl) fl9 (fun _ h9 => h9) rfl dX3_renew_19 ?_
      refine lv_iload_n hx hb dX3_renew_22 rfl (lv_at hl 0 rfl) ?_
      refine lv_iconst (v := 0) hx hb dX3_renew_23 hki_0 ?_
      refine va_iast hx hb hK hP hD hS 1 0 rfl rfl (vp_in_nI (show i < 40 by omega) (by decide)) dX3_renew_24 (fun H locs hP hD hS => ?_)
      have hP : va_P D vwCl [_, oqI k q_row 40 (upd rf2 ((nI i).toNatClampNeg) 0)] H := hP
      have hD : va_D A [_, oqI k q_row 40 (upd rf2 ((nI i).toNatClampNeg) 0)] := hD
      refine lv_iinc (v := nI (i + 1)) (lv' := [(3, .int (nI (i + 1))), (0, .ref q), (1, .int la), (2, .int (nI n))]) hx hb dX3_renew_25 hl (k := 0) rfl (nI_add (i) 1) (Nat.le_of_ble_eq_true rfl) rfl (fun ls hl => ?_)
      refine lv_goto (tgt := 12) hx hb dX3_renew_28 rfl ?_
      exact ih12 (i + 1, upd rf2 ((nI i).toNatClampNeg) 0) (by (try dsimp only); exact ⟨by omega, fun j hj => if e : j = i then hs_ue (by omega) e else (hs_uc (by omega) e).trans (hI.2 j (by omega))⟩) (by (try dsimp only); omega) _ _ _ hP hD hS (lv_sub hl [0, 1, 2, 3] rfl)
  · (try dsimp only); exact ⟨Nat.zero_le _, fun j hj => absurd hj (Nat.not_lt_zero j)⟩

set_option maxHeartbeats 4000000 in
set_option maxRecDepth 100000 in
theorem gf_put (l : Launch) (D : va_G) (k : Nat → ClassId) (sz : Nat) (q : Nat) (q_row : Nat) (q_la : Int32) (q_z : Nat) (i : Nat) (v : Int32) (rf : Nat → Int32) (hi : i < 40) : MV l yX3_put wsX3_put ({ frames := 0, cells := 0, slots := 0, locals := 0 }) D k [.ref q, .int (nI i), .int v] [oq2 q q_row q_la (nI q_z), oqI k q_row 40 (rf)] sz (fun (u : Nat → Int32) => u = upd rf i (lnV q_la v)) (fun (u : Nat → Int32) => [oq2 q q_row q_la (nI q_z), oqI k q_row 40 (u)]) := by
  refine Met.ofW (cc := cX3_put) (maxL := 3) (ret := none) hpn_X3 rfl ?_
  intro p e s m args below meth c s₁ B hml hv
  obtain ⟨rfl, hsz, hP, hK, hD0, hN⟩ := hv
  have hx := B.exec
  have hb := B.bytes
  have hr := B.returns
  have hlocks := B.notSynchronized
  have hts := atoms_spec (ws := wsX3_put) B.pre
  have hown := findClass_of_methodNamed B.named
  have hown : s.vm.findClass RX3 = some m.cls := hown
  have hiX3 : ∀ w ∈ u_ws RX3 TX3 3, w ∈ wsX3_put := fun w9 hw9 => List.mem_cons_of_mem _ (igX3 w9 hw9)
  have fl13 := hts (.fieldLink RX3 13 "HalfScales$Sheet" "laneOf" "I") (List.mem_cons_of_mem _ (hs_inG 1 205 rfl rfl))
  have fl9 := hts (.fieldLink RX3 9 "HalfScales$Sheet" "row" "[I") (List.mem_cons_of_mem _ (hs_inG 1 204 rfl rfl))
  subst hsz
  have hD := hD0.self (sz := s.heap.size)
  generalize hAe : va_A [oq2 q q_row q_la (nI q_z), oqI k q_row 40 (rf)] s.heap.size = A at hD ⊢
  have hA : ∀ q : Nat, s.heap.size ≤ q → A q := fun q h => by rw [← hAe]; exact Or.inr h
  have hS : va_S A s.heap s.heap [] := va_S.rf
  have hl := lv_entry ([.ref q, .int (nI i), .int v]) (n := 3) (Nat.le_of_ble_eq_true rfl)
  rw [lg_entry_eq]
  generalize (lg_sl ([.ref q, .int (nI i), .int v]) ++ List.replicate (3 - (lg_sl ([.ref q, .int (nI i), .int v])).length) Slot.unset).toArray = ls at hl ⊢
  have hl : lv_has ls 3 [(0, .ref q), (1, .int (nI i)), (2, .int v)] := hl
  have hP : va_P D vwCl [oq2 q q_row q_la (nI q_z), oqI k q_row 40 (rf)] s.heap := hP
  refine lv_aload_n hx hb dX3_put_0 rfl (lv_at hl 0 rfl) ?_
  refine va_get (D := D) (ci := 2) (v := .int q_la) (C := RX3) (T := TX3) (N := 3) hx hb hts hiX3 hown hK hP 0 rfl rfl 1 (Nat.le_of_ble_eq_true rfl) fl13 (fun _ h9 => h9) rfl dX3_put_1 ?_
  refine lv_if_ne (tgt := 18) hx hb dX3_put_4 rfl (fun c_1 => ?_) (fun c_1 => ?_)
  · refine lv_aload_n hx hb dX3_put_18 rfl (lv_at hl 0 rfl) ?_
    refine va_get (D := D) (ci := 2) (v := .int q_la) (C := RX3) (T := TX3) (N := 3) hx hb hts hiX3 hown hK hP 0 rfl rfl 1 (Nat.le_of_ble_eq_true rfl) fl13 (fun _ h9 => h9) rfl dX3_put_19 ?_
    refine lv_iconst (v := 1) hx hb dX3_put_22 hki_1 ?_
    refine lv_icmp_ne (tgt := 37) hx hb dX3_put_23 rfl (fun c_2 => ?_) (fun c_2 => ?_)
    · refine lv_aload_n hx hb dX3_put_37 rfl (lv_at hl 0 rfl) ?_
      refine va_get (D := D) (ci := 2) (v := .ref q_row) (C := RX3) (T := TX3) (N := 3) hx hb hts hiX3 hown hK hP 0 rfl rfl 0 (Nat.le_of_ble_eq_true rfl) fl9 (fun _ h9 => h9) rfl dX3_put_38 ?_
      refine lv_iload_n hx hb dX3_put_41 rfl (lv_at hl 1 rfl) ?_
      refine lv_iload_n hx hb dX3_put_42 rfl (lv_at hl 2 rfl) ?_
      refine va_iast hx hb hK hP hD hS 1 0 rfl rfl (vp_in_nI (show i < 40 by omega) (by decide)) dX3_put_43 (fun H locs hP hD hS => ?_)
      have hP : va_P D vwCl [oq2 q q_row q_la (nI q_z), oqI k q_row 40 (upd rf ((nI i).toNatClampNeg) v)] H := hP
      have hD : va_D A [oq2 q q_row q_la (nI q_z), oqI k q_row 40 (upd rf ((nI i).toNatClampNeg) v)] := hD
      exact hs_vret hx hb hr hlocks hK hP hD hS (upd rf ((nI i).toNatClampNeg) v) [0, 1] rfl (hs_upnd rfl) dX3_put_44 ((by (try dsimp only); rw [nI_clamp (by omega), lnV, if_neg c_1, if_neg c_2]))
    · refine lv_aload_n hx hb dX3_put_26 rfl (lv_at hl 0 rfl) ?_
      refine va_get (D := D) (ci := 2) (v := .ref q_row) (C := RX3) (T := TX3) (N := 3) hx hb hts hiX3 hown hK hP 0 rfl rfl 0 (Nat.le_of_ble_eq_true rfl) fl9 (fun _ h9 => h9) rfl dX3_put_27 ?_
      refine lv_iload_n hx hb dX3_put_30 rfl (lv_at hl 1 rfl) ?_
      refine lv_iload_n hx hb dX3_put_31 rfl (lv_at hl 2 rfl) ?_
      refine lv_i2s hx hb dX3_put_32 rfl ?_
      refine va_iast hx hb hK hP hD hS 1 0 rfl rfl (vp_in_nI (show i < 40 by omega) (by decide)) dX3_put_33 (fun H locs hP hD hS => ?_)
      have hP : va_P D vwCl [_, oqI k q_row 40 (upd rf ((nI i).toNatClampNeg) (((v) : Int32).toInt16.toInt32))] H := hP
      have hD : va_D A [_, oqI k q_row 40 (upd rf ((nI i).toNatClampNeg) (((v) : Int32).toInt16.toInt32))] := hD
      refine lv_goto (tgt := 44) hx hb dX3_put_34 rfl ?_
      exact hs_vret hx hb hr hlocks hK hP hD hS (upd rf ((nI i).toNatClampNeg) (((v) : Int32).toInt16.toInt32)) [0, 1] rfl (hs_upnd rfl) dX3_put_44 ((by (try dsimp only); rw [nI_clamp (by omega), lnV, if_neg c_1, if_pos c_2]))
  · refine lv_aload_n hx hb dX3_put_7 rfl (lv_at hl 0 rfl) ?_
    refine va_get (D := D) (ci := 2) (v := .ref q_row) (C := RX3) (T := TX3) (N := 3) hx hb hts hiX3 hown hK hP 0 rfl rfl 0 (Nat.le_of_ble_eq_true rfl) fl9 (fun _ h9 => h9) rfl dX3_put_8 ?_
    refine lv_iload_n hx hb dX3_put_11 rfl (lv_at hl 1 rfl) ?_
    refine lv_iload_n hx hb dX3_put_12 rfl (lv_at hl 2 rfl) ?_
    refine lv_i2b hx hb dX3_put_13 rfl ?_
    refine va_iast hx hb hK hP hD hS 1 0 rfl rfl (vp_in_nI (show i < 40 by omega) (by decide)) dX3_put_14 (fun H locs hP hD hS => ?_)
    have hP : va_P D vwCl [_, oqI k q_row 40 (upd rf ((nI i).toNatClampNeg) (((v) : Int32).toInt8.toInt32))] H := hP
    have hD : va_D A [_, oqI k q_row 40 (upd rf ((nI i).toNatClampNeg) (((v) : Int32).toInt8.toInt32))] := hD
    refine lv_goto (tgt := 44) hx hb dX3_put_15 rfl ?_
    exact hs_vret hx hb hr hlocks hK hP hD hS (upd rf ((nI i).toNatClampNeg) (((v) : Int32).toInt8.toInt32)) [0, 1] rfl (hs_upnd rfl) dX3_put_44 ((by (try dsimp only); rw [nI_clamp (by omega), lnV, if_pos c_1]))

set_option maxHeartbeats 4000000 in
set_option maxRecDepth 100000 in
theorem gpf_sheet (l : Launch) (D : va_G) (k : Nat → ClassId) (sz : Nat) (h : Nat) (h_now : Nat) (h_trial : Nat) (h_images : Nat) (h_imageThere : Nat) (h_teller : Nat) (h_ranks : Nat) (h_court : Nat) (h_sheets : Nat) (h_lf : Int32) (h_lt : Int32) (sh0 : Nat) (sh1 : Nat) (sh2 : Nat) (sh3 : Nat) (s_row : Nat → Nat) (s_la : Nat → Int32) (s_z : Nat → Nat) (s_r : Nat → Nat → Int32) (i : Int32) (v : Int32) (n : Int32) (hz0 : s_z 0 ≤ 40) (hz1 : s_z 1 ≤ 40) (hz2 : s_z 2 ≤ 40) (hz3 : s_z 3 ≤ 40) : MI l yX7_sheet wsX7_sheet ({ frames := 2, cells := 0, slots := 0, locals := 42 }) D k [.ref h, .int i, .int v, .int n] [oq6 h h_now h_trial h_images h_imageThere h_teller h_ranks h_court h_sheets h_lf h_lt, (h_sheets, .inl (k 3, 4, .inr (.inr (.inr (.inr (va_up (va_up (va_up (va_up (fun _ => none) 0 (some sh0)) 1 (some sh1)) 2 (some sh2)) 3 (some sh3))))))), oq2 sh0 (s_row 0) (s_la 0) (nI (s_z 0)), oqI k (s_row 0) 40 (s_r 0), oq2 sh1 (s_row 1) (s_la 1) (nI (s_z 1)), oqI k (s_row 1) 40 (s_r 1), oq2 sh2 (s_row 2) (s_la 2) (nI (s_z 2)), oqI k (s_row 2) 40 (s_r 2), oq2 sh3 (s_row 3) (s_la 3) (nI (s_z 3)), oqI k (s_row 3) 40 (s_r 3)] sz (fun (r : Int32) (u : (Nat → Int32) × (Nat → Nat) × (Nat → Nat → Int32)) => r = A_sheet i v n ∧ u.2.1 0 ≤ 40 ∧ u.2.1 1 ≤ 40 ∧ u.2.1 2 ≤ 40 ∧ u.2.1 3 ≤ 40 ∧ ((¬ r = 1 ∧ u.1 = s_la ∧ u.2.1 = s_z ∧ u.2.2 = s_r) ∨ (r = 1 ∧ ∃ i0 : Nat, i0 < 4 ∧ i = nI i0 ∧ u.1 i0 = v ∧ nI (u.2.1 i0) = n ∧ (∀ j, j < 40 → u.2.2 i0 j = 0) ∧ ∀ k, ¬ k = i0 → k < 4 → (u.1 k = s_la k ∧ u.2.1 k = s_z k ∧ u.2.2 k = s_r k)))) (fun (u : (Nat → Int32) × (Nat → Nat) × (Nat → Nat → Int32)) => [oq6 h h_now h_trial h_images h_imageThere h_teller h_ranks h_court h_sheets h_lf h_lt, (h_sheets, .inl (k 3, 4, .inr (.inr (.inr (.inr (va_up (va_up (va_up (va_up (fun _ => none) 0 (some sh0)) 1 (some sh1)) 2 (some sh2)) 3 (some sh3))))))), oq2 sh0 (s_row 0) (u.1 0) (nI (u.2.1 0)), oqI k (s_row 0) 40 (u.2.2 0), oq2 sh1 (s_row 1) (u.1 1) (nI (u.2.1 1)), oqI k (s_row 1) 40 (u.2.2 1), oq2 sh2 (s_row 2) (u.1 2) (nI (u.2.1 2)), oqI k (s_row 2) 40 (u.2.2 2), oq2 sh3 (s_row 3) (u.1 3) (nI (u.2.1 3)), oqI k (s_row 3) 40 (u.2.2 3)]) := by
  refine Met.ofW (cc := cX7_sheet) (maxL := 4) (ret := (some .int)) hpn_X7 rfl ?_
  intro p e s m args below meth c s₁ B hml hv
  obtain ⟨rfl, hsz, hP, hK, hD0, hN⟩ := hv
  have hx := B.exec
  have hb := B.bytes
  have hr := B.returns
  have hlocks := B.notSynchronized
  have hts := atoms_spec (ws := wsX7_sheet) B.pre
  have hown := findClass_of_methodNamed B.named
  have hown : s.vm.findClass RX7 = some m.cls := hown
  have hiX7 : ∀ w ∈ u_ws RX7 TX7 10, w ∈ wsX7_sheet := fun w9 hw9 => List.mem_cons_of_mem _ (igX7 w9 hw9)
  have fl50 := hts (.fieldLink RX7 50 "HalfScales" "sheets" "[LHalfScales$Sheet;") (List.mem_cons_of_mem _ (hs_inG 1 222 rfl rfl))
  subst hsz
  have hD := hD0.self (sz := s.heap.size)
  generalize hAe : va_A [oq6 h h_now h_trial h_images h_imageThere h_teller h_ranks h_court h_sheets h_lf h_lt, (h_sheets, .inl (k 3, 4, .inr (.inr (.inr (.inr (va_up (va_up (va_up (va_up (fun _ => none) 0 (some sh0)) 1 (some sh1)) 2 (some sh2)) 3 (some sh3))))))), oq2 sh0 (s_row 0) (s_la 0) (nI (s_z 0)), oqI k (s_row 0) 40 (s_r 0), oq2 sh1 (s_row 1) (s_la 1) (nI (s_z 1)), oqI k (s_row 1) 40 (s_r 1), oq2 sh2 (s_row 2) (s_la 2) (nI (s_z 2)), oqI k (s_row 2) 40 (s_r 2), oq2 sh3 (s_row 3) (s_la 3) (nI (s_z 3)), oqI k (s_row 3) 40 (s_r 3)] s.heap.size = A at hD ⊢
  have hA : ∀ q : Nat, s.heap.size ≤ q → A q := fun q h => by rw [← hAe]; exact Or.inr h
  have hS : va_S A s.heap s.heap [] := va_S.rf
  have hl := lv_entry ([.ref h, .int i, .int v, .int n]) (n := 4) (Nat.le_of_ble_eq_true rfl)
  rw [lg_entry_eq]
  generalize (lg_sl ([.ref h, .int i, .int v, .int n]) ++ List.replicate (4 - (lg_sl ([.ref h, .int i, .int v, .int n])).length) Slot.unset).toArray = ls at hl ⊢
  have hl : lv_has ls 4 [(0, .ref h), (1, .int i), (2, .int v), (3, .int n)] := hl
  have hP : va_P D vwCl [oq6 h h_now h_trial h_images h_imageThere h_teller h_ranks h_court h_sheets h_lf h_lt, (h_sheets, .inl (k 3, 4, .inr (.inr (.inr (.inr (va_up (va_up (va_up (va_up (fun _ => none) 0 (some sh0)) 1 (some sh1)) 2 (some sh2)) 3 (some sh3))))))), oq2 sh0 (s_row 0) (s_la 0) (nI (s_z 0)), oqI k (s_row 0) 40 (s_r 0), oq2 sh1 (s_row 1) (s_la 1) (nI (s_z 1)), oqI k (s_row 1) 40 (s_r 1), oq2 sh2 (s_row 2) (s_la 2) (nI (s_z 2)), oqI k (s_row 2) 40 (s_r 2), oq2 sh3 (s_row 3) (s_la 3) (nI (s_z 3)), oqI k (s_row 3) 40 (s_r 3)] s.heap := hP
  refine lv_iload_n hx hb dX7_sheet_0 rfl (lv_at hl 1 rfl) ?_
  refine hs_pi (va_runS (As := [.int i]) (rest := []) ⟨hx, hb, hml, hown, hts⟩ (g_isSheet l D k _ i) (va_cwS 1 hts gX7_sheet_X7_isSheet rfl rfl rfl hq_X7_isSheet ⟨Nat.le_of_ble_eq_true rfl, Nat.le_of_ble_eq_true rfl⟩) (hs_preS hK hN (hs_subP (w := []) hP [] rfl) (hD.sub (ws' := []) [] rfl rfl)) rfl rfl hl.1 rfl (lv_room (Nat.le_of_ble_eq_true rfl)) dX7_sheet_1 ⟨Nat.le_of_ble_eq_true rfl, Nat.le_of_ble_eq_true rfl⟩) hP hD hS hA (fun r_1 u_3 H locs hw_2 hP hS => ?_)
  refine hs_topi (hsb (hsin i 0 3)) hw_2 ?_
  refine lv_if_eq (tgt := 20) hx hb dX7_sheet_4 rfl (fun c_4 => ?_) (fun c_4 => ?_)
  · refine lv_iconst (v := (-1)) hx hb dX7_sheet_20 hki_m1 ?_
    exact hs_iret hx hb hr hlocks hK hP hD hS (s_la, s_z, s_r) [0, 1, 2, 3, 4, 5, 6, 7, 8, 9] rfl (hs_upnd rfl) dX7_sheet_21 (⟨by first | rfl | decide | (simp only [hsb_0, hsb_1] at c_4; simp [A_sheet, c_4]; done) | (simp [A_sheet, c_4]; done), show s_z 0 ≤ 40 by omega, show s_z 1 ≤ 40 by omega, show s_z 2 ≤ 40 by omega, show s_z 3 ≤ 40 by omega, Or.inl ⟨by decide, rfl, rfl, rfl⟩⟩)
  · rcases hs_v03 (hs_nb c_4) with rfl | rfl | rfl | rfl
    · refine lv_iload_n hx hb dX7_sheet_7 rfl (lv_at hl 2 rfl) ?_
      refine hs_pi (va_runS (As := [.int v]) (rest := []) ⟨hx, hb, hml, hown, hts⟩ (g_isLane l D k _ v) (va_cwS 1 hts gX7_sheet_X3_isLane rfl rfl rfl hq_X3_isLane ⟨Nat.le_of_ble_eq_true rfl, Nat.le_of_ble_eq_true rfl⟩) (hs_preS hK hN (hs_subP (w := []) hP [] rfl) (hD.sub (ws' := []) [] rfl rfl)) rfl rfl hl.1 rfl (lv_room (Nat.le_of_ble_eq_true rfl)) dX7_sheet_8 ⟨Nat.le_of_ble_eq_true rfl, Nat.le_of_ble_eq_true rfl⟩) hP hD hS hA (fun r_5 u_7 H locs hw_6 hP hS => ?_)
      refine hs_topi (hsb (hsin v 0 2)) hw_6 ?_
      refine lv_if_eq (tgt := 20) hx hb dX7_sheet_11 rfl (fun c_8 => ?_) (fun c_8 => ?_)
      · refine lv_iconst (v := (-1)) hx hb dX7_sheet_20 hki_m1 ?_
        exact hs_iret hx hb hr hlocks hK hP hD hS (s_la, s_z, s_r) [0, 1, 2, 3, 4, 5, 6, 7, 8, 9] rfl (hs_upnd rfl) dX7_sheet_21 (⟨by first | rfl | decide | (simp only [hsb_0, hsb_1] at c_4 c_8; simp [A_sheet, c_4, c_8]; done) | (simp [A_sheet, c_4, c_8]; done), show s_z 0 ≤ 40 by omega, show s_z 1 ≤ 40 by omega, show s_z 2 ≤ 40 by omega, show s_z 3 ≤ 40 by omega, Or.inl ⟨by decide, rfl, rfl, rfl⟩⟩)
      · refine lv_iload_n hx hb dX7_sheet_14 rfl (lv_at hl 3 rfl) ?_
        refine lv_bipush (v := 40) hx hb dX7_sheet_15 hkb_40 ?_
        refine lv_icmp_le (tgt := 22) hx hb dX7_sheet_17 rfl (fun c_9 => ?_) (fun c_9 => ?_)
        · refine lv_iload_n hx hb dX7_sheet_22 rfl (lv_at hl 3 rfl) ?_
          refine lv_if_ge (tgt := 29) hx hb dX7_sheet_23 rfl (fun c_10 => ?_) (fun c_10 => ?_)
          · obtain ⟨nn, hnn, rfl⟩ := nI_of2 (M := 40) (n := 40) (by decide) (Int32.not_lt.mpr c_10) c_9
            refine lv_aload_n hx hb dX7_sheet_29 rfl (lv_at hl 0 rfl) ?_
            refine va_get (D := D) (ci := 6) (v := .ref h_sheets) (C := RX7) (T := TX7) (N := 10) hx hb hts hiX7 hown hK hP 0 rfl rfl 7 (Nat.le_of_ble_eq_true rfl) fl50 (fun _ h9 => h9) rfl dX7_sheet_30 ?_
            refine lv_iload_n hx hb dX7_sheet_33 rfl (lv_at hl 1 rfl) ?_
            refine va_aldq hx hb hK hP 1 3 rfl rfl (hs_in (by decide)) dX7_sheet_34 ?_
            refine W.eq (g2 := F0 m 35 ls (.ref sh0 :: [])) rfl ?_
            refine lv_iload_n hx hb dX7_sheet_35 rfl (lv_at hl 2 rfl) ?_
            refine lv_iload_n hx hb dX7_sheet_36 rfl (lv_at hl 3 rfl) ?_
            refine hs_cvM (va_runV (As := [.int v, .int (nI nn)]) (rest := []) ⟨hx, hb, hml, hown, hts⟩ (gf_renew l D k _ sh0 (s_row 0) (s_la 0) (s_z 0) v nn (s_r 0)) (cwV 2 hts gX7_sheet_X3_renew rfl rfl rfl ⟨rfl, hq_X3_renew⟩ ⟨Nat.le_of_ble_eq_true rfl, Nat.le_of_ble_eq_true rfl⟩) (hs_preV hK hN (hs_subP (w := [_, _]) hP [2, 3] rfl) (hD.sub (ws' := [_, _]) [2, 3] (hs_upnd rfl) rfl) (ci := 2) (q0 := 0) rfl rfl) rfl rfl hl.1 rfl (lv_room (Nat.le_of_ble_eq_true rfl)) dX7_sheet_37 ⟨Nat.le_of_ble_eq_true rfl, Nat.le_of_ble_eq_true rfl⟩) hP hD hS hA [true, true, false, false, true, true, true, true, true, true] [_, _, _, _, _, _, _, _] [_, _] rfl [0, 1] rfl [0, 1] (fun u_13 => [_, _]) (fun _ => rfl) (hs_upnd rfl) [true, true, false, false, true, true, true, true, true, true] (fun u_13 => [_, _, _, _, _, _, _, _, _, _]) (fun _ => rfl) (fun u_13 H locs hw_12 hP hD hS => ?_)
            have hw_12 : ∀ j, j < 40 → u_13 j = 0 := hw_12
            refine lv_iconst (v := 1) hx hb dX7_sheet_40 hki_1 ?_
            exact hs_iret hx hb hr hlocks hK hP hD hS ((fun j => ([v, s_la 1, s_la 2, s_la 3] : List (Int32)).getD j 0), (fun j => ([nn, s_z 1, s_z 2, s_z 3] : List (Nat)).getD j 0), (fun j => ([u_13, s_r 1, s_r 2, s_r 3] : List (Nat → Int32)).getD j hsz)) [0, 1, 2, 3, 4, 5, 6, 7, 8, 9] rfl (hs_upnd rfl) dX7_sheet_41 (⟨by first | rfl | decide | (simp only [hsb_0, hsb_1] at c_4 c_8 c_9 c_10; simp [A_sheet, c_4, c_8, c_9, c_10]; done) | (simp [A_sheet, c_4, c_8, c_9, c_10]; done), show nn ≤ 40 by omega, show s_z 1 ≤ 40 by omega, show s_z 2 ≤ 40 by omega, show s_z 3 ≤ 40 by omega, Or.inr ⟨rfl, 0, by decide, rfl, rfl, rfl, hw_12, fun k h1 h2 => by rcases (show k = 1 ∨ k = 2 ∨ k = 3 by omega) with rfl | rfl | rfl <;> exact ⟨rfl, rfl, rfl⟩⟩⟩)
          · refine lv_bipush (v := (-14)) hx hb dX7_sheet_26 hkb_m14 ?_
            exact hs_iret hx hb hr hlocks hK hP hD hS (s_la, s_z, s_r) [0, 1, 2, 3, 4, 5, 6, 7, 8, 9] rfl (hs_upnd rfl) dX7_sheet_28 (⟨by first | rfl | decide | (simp only [hsb_0, hsb_1] at c_4 c_8 c_9 c_10; simp [A_sheet, c_4, c_8, c_9, c_10]; done) | (simp [A_sheet, c_4, c_8, c_9, c_10]; done), show s_z 0 ≤ 40 by omega, show s_z 1 ≤ 40 by omega, show s_z 2 ≤ 40 by omega, show s_z 3 ≤ 40 by omega, Or.inl ⟨by decide, rfl, rfl, rfl⟩⟩)
        · refine lv_iconst (v := (-1)) hx hb dX7_sheet_20 hki_m1 ?_
          exact hs_iret hx hb hr hlocks hK hP hD hS (s_la, s_z, s_r) [0, 1, 2, 3, 4, 5, 6, 7, 8, 9] rfl (hs_upnd rfl) dX7_sheet_21 (⟨by first | rfl | decide | (simp only [hsb_0, hsb_1] at c_4 c_8 c_9; simp [A_sheet, c_4, c_8, c_9]; done) | (simp [A_sheet, c_4, c_8, c_9]; done), show s_z 0 ≤ 40 by omega, show s_z 1 ≤ 40 by omega, show s_z 2 ≤ 40 by omega, show s_z 3 ≤ 40 by omega, Or.inl ⟨by decide, rfl, rfl, rfl⟩⟩)
    · refine lv_iload_n hx hb dX7_sheet_7 rfl (lv_at hl 2 rfl) ?_
      refine hs_pi (va_runS (As := [.int v]) (rest := []) ⟨hx, hb, hml, hown, hts⟩ (g_isLane l D k _ v) (va_cwS 1 hts gX7_sheet_X3_isLane rfl rfl rfl hq_X3_isLane ⟨Nat.le_of_ble_eq_true rfl, Nat.le_of_ble_eq_true rfl⟩) (hs_preS hK hN (hs_subP (w := []) hP [] rfl) (hD.sub (ws' := []) [] rfl rfl)) rfl rfl hl.1 rfl (lv_room (Nat.le_of_ble_eq_true rfl)) dX7_sheet_8 ⟨Nat.le_of_ble_eq_true rfl, Nat.le_of_ble_eq_true rfl⟩) hP hD hS hA (fun r_14 u_16 H locs hw_15 hP hS => ?_)
      refine hs_topi (hsb (hsin v 0 2)) hw_15 ?_
      refine lv_if_eq (tgt := 20) hx hb dX7_sheet_11 rfl (fun c_17 => ?_) (fun c_17 => ?_)
      · refine lv_iconst (v := (-1)) hx hb dX7_sheet_20 hki_m1 ?_
        exact hs_iret hx hb hr hlocks hK hP hD hS (s_la, s_z, s_r) [0, 1, 2, 3, 4, 5, 6, 7, 8, 9] rfl (hs_upnd rfl) dX7_sheet_21 (⟨by first | rfl | decide | (simp only [hsb_0, hsb_1] at c_4 c_17; simp [A_sheet, c_4, c_17]; done) | (simp [A_sheet, c_4, c_17]; done), show s_z 0 ≤ 40 by omega, show s_z 1 ≤ 40 by omega, show s_z 2 ≤ 40 by omega, show s_z 3 ≤ 40 by omega, Or.inl ⟨by decide, rfl, rfl, rfl⟩⟩)
      · refine lv_iload_n hx hb dX7_sheet_14 rfl (lv_at hl 3 rfl) ?_
        refine lv_bipush (v := 40) hx hb dX7_sheet_15 hkb_40 ?_
        refine lv_icmp_le (tgt := 22) hx hb dX7_sheet_17 rfl (fun c_18 => ?_) (fun c_18 => ?_)
        · refine lv_iload_n hx hb dX7_sheet_22 rfl (lv_at hl 3 rfl) ?_
          refine lv_if_ge (tgt := 29) hx hb dX7_sheet_23 rfl (fun c_19 => ?_) (fun c_19 => ?_)
          · obtain ⟨nn, hnn, rfl⟩ := nI_of2 (M := 40) (n := 40) (by decide) (Int32.not_lt.mpr c_19) c_18
            refine lv_aload_n hx hb dX7_sheet_29 rfl (lv_at hl 0 rfl) ?_
            refine va_get (D := D) (ci := 6) (v := .ref h_sheets) (C := RX7) (T := TX7) (N := 10) hx hb hts hiX7 hown hK hP 0 rfl rfl 7 (Nat.le_of_ble_eq_true rfl) fl50 (fun _ h9 => h9) rfl dX7_sheet_30 ?_
            refine lv_iload_n hx hb dX7_sheet_33 rfl (lv_at hl 1 rfl) ?_
            refine va_aldq hx hb hK hP 1 3 rfl rfl (hs_in (by decide)) dX7_sheet_34 ?_
            refine W.eq (g2 := F0 m 35 ls (.ref sh1 :: [])) rfl ?_
            refine lv_iload_n hx hb dX7_sheet_35 rfl (lv_at hl 2 rfl) ?_
            refine lv_iload_n hx hb dX7_sheet_36 rfl (lv_at hl 3 rfl) ?_
            refine hs_cvM (va_runV (As := [.int v, .int (nI nn)]) (rest := []) ⟨hx, hb, hml, hown, hts⟩ (gf_renew l D k _ sh1 (s_row 1) (s_la 1) (s_z 1) v nn (s_r 1)) (cwV 2 hts gX7_sheet_X3_renew rfl rfl rfl ⟨rfl, hq_X3_renew⟩ ⟨Nat.le_of_ble_eq_true rfl, Nat.le_of_ble_eq_true rfl⟩) (hs_preV hK hN (hs_subP (w := [_, _]) hP [4, 5] rfl) (hD.sub (ws' := [_, _]) [4, 5] (hs_upnd rfl) rfl) (ci := 2) (q0 := 0) rfl rfl) rfl rfl hl.1 rfl (lv_room (Nat.le_of_ble_eq_true rfl)) dX7_sheet_37 ⟨Nat.le_of_ble_eq_true rfl, Nat.le_of_ble_eq_true rfl⟩) hP hD hS hA [true, true, true, true, false, false, true, true, true, true] [_, _, _, _, _, _, _, _] [_, _] rfl [0, 1] rfl [0, 1] (fun u_22 => [_, _]) (fun _ => rfl) (hs_upnd rfl) [true, true, true, true, false, false, true, true, true, true] (fun u_22 => [_, _, _, _, _, _, _, _, _, _]) (fun _ => rfl) (fun u_22 H locs hw_21 hP hD hS => ?_)
            have hw_21 : ∀ j, j < 40 → u_22 j = 0 := hw_21
            refine lv_iconst (v := 1) hx hb dX7_sheet_40 hki_1 ?_
            exact hs_iret hx hb hr hlocks hK hP hD hS ((fun j => ([s_la 0, v, s_la 2, s_la 3] : List (Int32)).getD j 0), (fun j => ([s_z 0, nn, s_z 2, s_z 3] : List (Nat)).getD j 0), (fun j => ([s_r 0, u_22, s_r 2, s_r 3] : List (Nat → Int32)).getD j hsz)) [0, 1, 2, 3, 4, 5, 6, 7, 8, 9] rfl (hs_upnd rfl) dX7_sheet_41 (⟨by first | rfl | decide | (simp only [hsb_0, hsb_1] at c_4 c_17 c_18 c_19; simp [A_sheet, c_4, c_17, c_18, c_19]; done) | (simp [A_sheet, c_4, c_17, c_18, c_19]; done), show s_z 0 ≤ 40 by omega, show nn ≤ 40 by omega, show s_z 2 ≤ 40 by omega, show s_z 3 ≤ 40 by omega, Or.inr ⟨rfl, 1, by decide, rfl, rfl, rfl, hw_21, fun k h1 h2 => by rcases (show k = 0 ∨ k = 2 ∨ k = 3 by omega) with rfl | rfl | rfl <;> exact ⟨rfl, rfl, rfl⟩⟩⟩)
          · refine lv_bipush (v := (-14)) hx hb dX7_sheet_26 hkb_m14 ?_
            exact hs_iret hx hb hr hlocks hK hP hD hS (s_la, s_z, s_r) [0, 1, 2, 3, 4, 5, 6, 7, 8, 9] rfl (hs_upnd rfl) dX7_sheet_28 (⟨by first | rfl | decide | (simp only [hsb_0, hsb_1] at c_4 c_17 c_18 c_19; simp [A_sheet, c_4, c_17, c_18, c_19]; done) | (simp [A_sheet, c_4, c_17, c_18, c_19]; done), show s_z 0 ≤ 40 by omega, show s_z 1 ≤ 40 by omega, show s_z 2 ≤ 40 by omega, show s_z 3 ≤ 40 by omega, Or.inl ⟨by decide, rfl, rfl, rfl⟩⟩)
        · refine lv_iconst (v := (-1)) hx hb dX7_sheet_20 hki_m1 ?_
          exact hs_iret hx hb hr hlocks hK hP hD hS (s_la, s_z, s_r) [0, 1, 2, 3, 4, 5, 6, 7, 8, 9] rfl (hs_upnd rfl) dX7_sheet_21 (⟨by first | rfl | decide | (simp only [hsb_0, hsb_1] at c_4 c_17 c_18; simp [A_sheet, c_4, c_17, c_18]; done) | (simp [A_sheet, c_4, c_17, c_18]; done), show s_z 0 ≤ 40 by omega, show s_z 1 ≤ 40 by omega, show s_z 2 ≤ 40 by omega, show s_z 3 ≤ 40 by omega, Or.inl ⟨by decide, rfl, rfl, rfl⟩⟩)
    · refine lv_iload_n hx hb dX7_sheet_7 rfl (lv_at hl 2 rfl) ?_
      refine hs_pi (va_runS (As := [.int v]) (rest := []) ⟨hx, hb, hml, hown, hts⟩ (g_isLane l D k _ v) (va_cwS 1 hts gX7_sheet_X3_isLane rfl rfl rfl hq_X3_isLane ⟨Nat.le_of_ble_eq_true rfl, Nat.le_of_ble_eq_true rfl⟩) (hs_preS hK hN (hs_subP (w := []) hP [] rfl) (hD.sub (ws' := []) [] rfl rfl)) rfl rfl hl.1 rfl (lv_room (Nat.le_of_ble_eq_true rfl)) dX7_sheet_8 ⟨Nat.le_of_ble_eq_true rfl, Nat.le_of_ble_eq_true rfl⟩) hP hD hS hA (fun r_23 u_25 H locs hw_24 hP hS => ?_)
      refine hs_topi (hsb (hsin v 0 2)) hw_24 ?_
      refine lv_if_eq (tgt := 20) hx hb dX7_sheet_11 rfl (fun c_26 => ?_) (fun c_26 => ?_)
      · refine lv_iconst (v := (-1)) hx hb dX7_sheet_20 hki_m1 ?_
        exact hs_iret hx hb hr hlocks hK hP hD hS (s_la, s_z, s_r) [0, 1, 2, 3, 4, 5, 6, 7, 8, 9] rfl (hs_upnd rfl) dX7_sheet_21 (⟨by first | rfl | decide | (simp only [hsb_0, hsb_1] at c_4 c_26; simp [A_sheet, c_4, c_26]; done) | (simp [A_sheet, c_4, c_26]; done), show s_z 0 ≤ 40 by omega, show s_z 1 ≤ 40 by omega, show s_z 2 ≤ 40 by omega, show s_z 3 ≤ 40 by omega, Or.inl ⟨by decide, rfl, rfl, rfl⟩⟩)
      · refine lv_iload_n hx hb dX7_sheet_14 rfl (lv_at hl 3 rfl) ?_
        refine lv_bipush (v := 40) hx hb dX7_sheet_15 hkb_40 ?_
        refine lv_icmp_le (tgt := 22) hx hb dX7_sheet_17 rfl (fun c_27 => ?_) (fun c_27 => ?_)
        · refine lv_iload_n hx hb dX7_sheet_22 rfl (lv_at hl 3 rfl) ?_
          refine lv_if_ge (tgt := 29) hx hb dX7_sheet_23 rfl (fun c_28 => ?_) (fun c_28 => ?_)
          · obtain ⟨nn, hnn, rfl⟩ := nI_of2 (M := 40) (n := 40) (by decide) (Int32.not_lt.mpr c_28) c_27
            refine lv_aload_n hx hb dX7_sheet_29 rfl (lv_at hl 0 rfl) ?_
            refine va_get (D := D) (ci := 6) (v := .ref h_sheets) (C := RX7) (T := TX7) (N := 10) hx hb hts hiX7 hown hK hP 0 rfl rfl 7 (Nat.le_of_ble_eq_true rfl) fl50 (fun _ h9 => h9) rfl dX7_sheet_30 ?_
            refine lv_iload_n hx hb dX7_sheet_33 rfl (lv_at hl 1 rfl) ?_
            refine va_aldq hx hb hK hP 1 3 rfl rfl (hs_in (by decide)) dX7_sheet_34 ?_
            refine W.eq (g2 := F0 m 35 ls (.ref sh2 :: [])) rfl ?_
            refine lv_iload_n hx hb dX7_sheet_35 rfl (lv_at hl 2 rfl) ?_
            refine lv_iload_n hx hb dX7_sheet_36 rfl (lv_at hl 3 rfl) ?_
            refine hs_cvM (va_runV (As := [.int v, .int (nI nn)]) (rest := []) ⟨hx, hb, hml, hown, hts⟩ (gf_renew l D k _ sh2 (s_row 2) (s_la 2) (s_z 2) v nn (s_r 2)) (cwV 2 hts gX7_sheet_X3_renew rfl rfl rfl ⟨rfl, hq_X3_renew⟩ ⟨Nat.le_of_ble_eq_true rfl, Nat.le_of_ble_eq_true rfl⟩) (hs_preV hK hN (hs_subP (w := [_, _]) hP [6, 7] rfl) (hD.sub (ws' := [_, _]) [6, 7] (hs_upnd rfl) rfl) (ci := 2) (q0 := 0) rfl rfl) rfl rfl hl.1 rfl (lv_room (Nat.le_of_ble_eq_true rfl)) dX7_sheet_37 ⟨Nat.le_of_ble_eq_true rfl, Nat.le_of_ble_eq_true rfl⟩) hP hD hS hA [true, true, true, true, true, true, false, false, true, true] [_, _, _, _, _, _, _, _] [_, _] rfl [0, 1] rfl [0, 1] (fun u_31 => [_, _]) (fun _ => rfl) (hs_upnd rfl) [true, true, true, true, true, true, false, false, true, true] (fun u_31 => [_, _, _, _, _, _, _, _, _, _]) (fun _ => rfl) (fun u_31 H locs hw_30 hP hD hS => ?_)
            have hw_30 : ∀ j, j < 40 → u_31 j = 0 := hw_30
            refine lv_iconst (v := 1) hx hb dX7_sheet_40 hki_1 ?_
            exact hs_iret hx hb hr hlocks hK hP hD hS ((fun j => ([s_la 0, s_la 1, v, s_la 3] : List (Int32)).getD j 0), (fun j => ([s_z 0, s_z 1, nn, s_z 3] : List (Nat)).getD j 0), (fun j => ([s_r 0, s_r 1, u_31, s_r 3] : List (Nat → Int32)).getD j hsz)) [0, 1, 2, 3, 4, 5, 6, 7, 8, 9] rfl (hs_upnd rfl) dX7_sheet_41 (⟨by first | rfl | decide | (simp only [hsb_0, hsb_1] at c_4 c_26 c_27 c_28; simp [A_sheet, c_4, c_26, c_27, c_28]; done) | (simp [A_sheet, c_4, c_26, c_27, c_28]; done), show s_z 0 ≤ 40 by omega, show s_z 1 ≤ 40 by omega, show nn ≤ 40 by omega, show s_z 3 ≤ 40 by omega, Or.inr ⟨rfl, 2, by decide, rfl, rfl, rfl, hw_30, fun k h1 h2 => by rcases (show k = 0 ∨ k = 1 ∨ k = 3 by omega) with rfl | rfl | rfl <;> exact ⟨rfl, rfl, rfl⟩⟩⟩)
          · refine lv_bipush (v := (-14)) hx hb dX7_sheet_26 hkb_m14 ?_
            exact hs_iret hx hb hr hlocks hK hP hD hS (s_la, s_z, s_r) [0, 1, 2, 3, 4, 5, 6, 7, 8, 9] rfl (hs_upnd rfl) dX7_sheet_28 (⟨by first | rfl | decide | (simp only [hsb_0, hsb_1] at c_4 c_26 c_27 c_28; simp [A_sheet, c_4, c_26, c_27, c_28]; done) | (simp [A_sheet, c_4, c_26, c_27, c_28]; done), show s_z 0 ≤ 40 by omega, show s_z 1 ≤ 40 by omega, show s_z 2 ≤ 40 by omega, show s_z 3 ≤ 40 by omega, Or.inl ⟨by decide, rfl, rfl, rfl⟩⟩)
        · refine lv_iconst (v := (-1)) hx hb dX7_sheet_20 hki_m1 ?_
          exact hs_iret hx hb hr hlocks hK hP hD hS (s_la, s_z, s_r) [0, 1, 2, 3, 4, 5, 6, 7, 8, 9] rfl (hs_upnd rfl) dX7_sheet_21 (⟨by first | rfl | decide | (simp only [hsb_0, hsb_1] at c_4 c_26 c_27; simp [A_sheet, c_4, c_26, c_27]; done) | (simp [A_sheet, c_4, c_26, c_27]; done), show s_z 0 ≤ 40 by omega, show s_z 1 ≤ 40 by omega, show s_z 2 ≤ 40 by omega, show s_z 3 ≤ 40 by omega, Or.inl ⟨by decide, rfl, rfl, rfl⟩⟩)
    · refine lv_iload_n hx hb dX7_sheet_7 rfl (lv_at hl 2 rfl) ?_
      refine hs_pi (va_runS (As := [.int v]) (rest := []) ⟨hx, hb, hml, hown, hts⟩ (g_isLane l D k _ v) (va_cwS 1 hts gX7_sheet_X3_isLane rfl rfl rfl hq_X3_isLane ⟨Nat.le_of_ble_eq_true rfl, Nat.le_of_ble_eq_true rfl⟩) (hs_preS hK hN (hs_subP (w := []) hP [] rfl) (hD.sub (ws' := []) [] rfl rfl)) rfl rfl hl.1 rfl (lv_room (Nat.le_of_ble_eq_true rfl)) dX7_sheet_8 ⟨Nat.le_of_ble_eq_true rfl, Nat.le_of_ble_eq_true rfl⟩) hP hD hS hA (fun r_32 u_34 H locs hw_33 hP hS => ?_)
      refine hs_topi (hsb (hsin v 0 2)) hw_33 ?_
      refine lv_if_eq (tgt := 20) hx hb dX7_sheet_11 rfl (fun c_35 => ?_) (fun c_35 => ?_)
      · refine lv_iconst (v := (-1)) hx hb dX7_sheet_20 hki_m1 ?_
        exact hs_iret hx hb hr hlocks hK hP hD hS (s_la, s_z, s_r) [0, 1, 2, 3, 4, 5, 6, 7, 8, 9] rfl (hs_upnd rfl) dX7_sheet_21 (⟨by first | rfl | decide | (simp only [hsb_0, hsb_1] at c_4 c_35; simp [A_sheet, c_4, c_35]; done) | (simp [A_sheet, c_4, c_35]; done), show s_z 0 ≤ 40 by omega, show s_z 1 ≤ 40 by omega, show s_z 2 ≤ 40 by omega, show s_z 3 ≤ 40 by omega, Or.inl ⟨by decide, rfl, rfl, rfl⟩⟩)
      · refine lv_iload_n hx hb dX7_sheet_14 rfl (lv_at hl 3 rfl) ?_
        refine lv_bipush (v := 40) hx hb dX7_sheet_15 hkb_40 ?_
        refine lv_icmp_le (tgt := 22) hx hb dX7_sheet_17 rfl (fun c_36 => ?_) (fun c_36 => ?_)
        · refine lv_iload_n hx hb dX7_sheet_22 rfl (lv_at hl 3 rfl) ?_
          refine lv_if_ge (tgt := 29) hx hb dX7_sheet_23 rfl (fun c_37 => ?_) (fun c_37 => ?_)
          · obtain ⟨nn, hnn, rfl⟩ := nI_of2 (M := 40) (n := 40) (by decide) (Int32.not_lt.mpr c_37) c_36
            refine lv_aload_n hx hb dX7_sheet_29 rfl (lv_at hl 0 rfl) ?_
            refine va_get (D := D) (ci := 6) (v := .ref h_sheets) (C := RX7) (T := TX7) (N := 10) hx hb hts hiX7 hown hK hP 0 rfl rfl 7 (Nat.le_of_ble_eq_true rfl) fl50 (fun _ h9 => h9) rfl dX7_sheet_30 ?_
            refine lv_iload_n hx hb dX7_sheet_33 rfl (lv_at hl 1 rfl) ?_
            refine va_aldq hx hb hK hP 1 3 rfl rfl (hs_in (by decide)) dX7_sheet_34 ?_
            refine W.eq (g2 := F0 m 35 ls (.ref sh3 :: [])) rfl ?_
            refine lv_iload_n hx hb dX7_sheet_35 rfl (lv_at hl 2 rfl) ?_
            refine lv_iload_n hx hb dX7_sheet_36 rfl (lv_at hl 3 rfl) ?_
            refine hs_cvM (va_runV (As := [.int v, .int (nI nn)]) (rest := []) ⟨hx, hb, hml, hown, hts⟩ (gf_renew l D k _ sh3 (s_row 3) (s_la 3) (s_z 3) v nn (s_r 3)) (cwV 2 hts gX7_sheet_X3_renew rfl rfl rfl ⟨rfl, hq_X3_renew⟩ ⟨Nat.le_of_ble_eq_true rfl, Nat.le_of_ble_eq_true rfl⟩) (hs_preV hK hN (hs_subP (w := [_, _]) hP [8, 9] rfl) (hD.sub (ws' := [_, _]) [8, 9] (hs_upnd rfl) rfl) (ci := 2) (q0 := 0) rfl rfl) rfl rfl hl.1 rfl (lv_room (Nat.le_of_ble_eq_true rfl)) dX7_sheet_37 ⟨Nat.le_of_ble_eq_true rfl, Nat.le_of_ble_eq_true rfl⟩) hP hD hS hA [true, true, true, true, true, true, true, true, false, false] [_, _, _, _, _, _, _, _] [_, _] rfl [0, 1] rfl [0, 1] (fun u_40 => [_, _]) (fun _ => rfl) (hs_upnd rfl) [true, true, true, true, true, true, true, true, false, false] (fun u_40 => [_, _, _, _, _, _, _, _, _, _]) (fun _ => rfl) (fun u_40 H locs hw_39 hP hD hS => ?_)
            have hw_39 : ∀ j, j < 40 → u_40 j = 0 := hw_39
            refine lv_iconst (v := 1) hx hb dX7_sheet_40 hki_1 ?_
            exact hs_iret hx hb hr hlocks hK hP hD hS ((fun j => ([s_la 0, s_la 1, s_la 2, v] : List (Int32)).getD j 0), (fun j => ([s_z 0, s_z 1, s_z 2, nn] : List (Nat)).getD j 0), (fun j => ([s_r 0, s_r 1, s_r 2, u_40] : List (Nat → Int32)).getD j hsz)) [0, 1, 2, 3, 4, 5, 6, 7, 8, 9] rfl (hs_upnd rfl) dX7_sheet_41 (⟨by first | rfl | decide | (simp only [hsb_0, hsb_1] at c_4 c_35 c_36 c_37; simp [A_sheet, c_4, c_35, c_36, c_37]; done) | (simp [A_sheet, c_4, c_35, c_36, c_37]; done), show s_z 0 ≤ 40 by omega, show s_z 1 ≤ 40 by omega, show s_z 2 ≤ 40 by omega, show nn ≤ 40 by omega, Or.inr ⟨rfl, 3, by decide, rfl, rfl, rfl, hw_39, fun k h1 h2 => by rcases (show k = 0 ∨ k = 1 ∨ k = 2 by omega) with rfl | rfl | rfl <;> exact ⟨rfl, rfl, rfl⟩⟩⟩)
          · refine lv_bipush (v := (-14)) hx hb dX7_sheet_26 hkb_m14 ?_
            exact hs_iret hx hb hr hlocks hK hP hD hS (s_la, s_z, s_r) [0, 1, 2, 3, 4, 5, 6, 7, 8, 9] rfl (hs_upnd rfl) dX7_sheet_28 (⟨by first | rfl | decide | (simp only [hsb_0, hsb_1] at c_4 c_35 c_36 c_37; simp [A_sheet, c_4, c_35, c_36, c_37]; done) | (simp [A_sheet, c_4, c_35, c_36, c_37]; done), show s_z 0 ≤ 40 by omega, show s_z 1 ≤ 40 by omega, show s_z 2 ≤ 40 by omega, show s_z 3 ≤ 40 by omega, Or.inl ⟨by decide, rfl, rfl, rfl⟩⟩)
        · refine lv_iconst (v := (-1)) hx hb dX7_sheet_20 hki_m1 ?_
          exact hs_iret hx hb hr hlocks hK hP hD hS (s_la, s_z, s_r) [0, 1, 2, 3, 4, 5, 6, 7, 8, 9] rfl (hs_upnd rfl) dX7_sheet_21 (⟨by first | rfl | decide | (simp only [hsb_0, hsb_1] at c_4 c_35 c_36; simp [A_sheet, c_4, c_35, c_36]; done) | (simp [A_sheet, c_4, c_35, c_36]; done), show s_z 0 ≤ 40 by omega, show s_z 1 ≤ 40 by omega, show s_z 2 ≤ 40 by omega, show s_z 3 ≤ 40 by omega, Or.inl ⟨by decide, rfl, rfl, rfl⟩⟩)

set_option maxHeartbeats 4000000 in
set_option maxRecDepth 100000 in
theorem gpf_lay (l : Launch) (D : va_G) (k : Nat → ClassId) (sz : Nat) (h : Nat) (h_now : Nat) (h_trial : Nat) (h_images : Nat) (h_imageThere : Nat) (h_teller : Nat) (h_ranks : Nat) (h_court : Nat) (h_sheets : Nat) (h_lf : Int32) (h_lt : Int32) (sh0 : Nat) (sh1 : Nat) (sh2 : Nat) (sh3 : Nat) (s_row : Nat → Nat) (s_la : Nat → Int32) (s_z : Nat → Nat) (s_r : Nat → Nat → Int32) (i : Int32) (a : Int32) (v : Int32) (hz0 : s_z 0 ≤ 40) (hz1 : s_z 1 ≤ 40) (hz2 : s_z 2 ≤ 40) (hz3 : s_z 3 ≤ 40) : MI l yX7_lay wsX7_lay ({ frames := 2, cells := 0, slots := 0, locals := 43 }) D k [.ref h, .int i, .int a, .int v] [oq6 h h_now h_trial h_images h_imageThere h_teller h_ranks h_court h_sheets h_lf h_lt, (h_sheets, .inl (k 3, 4, .inr (.inr (.inr (.inr (va_up (va_up (va_up (va_up (fun _ => none) 0 (some sh0)) 1 (some sh1)) 2 (some sh2)) 3 (some sh3))))))), oq2 sh0 (s_row 0) (s_la 0) (nI (s_z 0)), oqI k (s_row 0) 40 (s_r 0), oq2 sh1 (s_row 1) (s_la 1) (nI (s_z 1)), oqI k (s_row 1) 40 (s_r 1), oq2 sh2 (s_row 2) (s_la 2) (nI (s_z 2)), oqI k (s_row 2) 40 (s_r 2), oq2 sh3 (s_row 3) (s_la 3) (nI (s_z 3)), oqI k (s_row 3) 40 (s_r 3)] sz (fun (r : Int32) (u : Nat → Nat → Int32) => r = (if hsin i 0 3 then A_layf (s_la i.toNatClampNeg) (s_z i.toNatClampNeg) a else -1) ∧ ((¬ r = 1 ∧ u = s_r) ∨ (r = 1 ∧ ∃ i0 aj : Nat, i0 < 4 ∧ aj < s_z i0 ∧ i = nI i0 ∧ a = nI aj ∧ u i0 = upd (s_r i0) aj (lnV (s_la i0) v) ∧ ∀ k, ¬ k = i0 → k < 4 → u k = s_r k))) (fun (u : Nat → Nat → Int32) => [oq6 h h_now h_trial h_images h_imageThere h_teller h_ranks h_court h_sheets h_lf h_lt, (h_sheets, .inl (k 3, 4, .inr (.inr (.inr (.inr (va_up (va_up (va_up (va_up (fun _ => none) 0 (some sh0)) 1 (some sh1)) 2 (some sh2)) 3 (some sh3))))))), oq2 sh0 (s_row 0) (s_la 0) (nI (s_z 0)), oqI k (s_row 0) 40 (u 0), oq2 sh1 (s_row 1) (s_la 1) (nI (s_z 1)), oqI k (s_row 1) 40 (u 1), oq2 sh2 (s_row 2) (s_la 2) (nI (s_z 2)), oqI k (s_row 2) 40 (u 2), oq2 sh3 (s_row 3) (s_la 3) (nI (s_z 3)), oqI k (s_row 3) 40 (u 3)]) := by
  refine Met.ofW (cc := cX7_lay) (maxL := 5) (ret := (some .int)) hpn_X7 rfl ?_
  intro p e s m args below meth c s₁ B hml hv
  obtain ⟨rfl, hsz, hP, hK, hD0, hN⟩ := hv
  have hx := B.exec
  have hb := B.bytes
  have hr := B.returns
  have hlocks := B.notSynchronized
  have hts := atoms_spec (ws := wsX7_lay) B.pre
  have hown := findClass_of_methodNamed B.named
  have hown : s.vm.findClass RX7 = some m.cls := hown
  have hiX7 : ∀ w ∈ u_ws RX7 TX7 10, w ∈ wsX7_lay := fun w9 hw9 => List.mem_cons_of_mem _ (igX7 w9 hw9)
  have fl50 := hts (.fieldLink RX7 50 "HalfScales" "sheets" "[LHalfScales$Sheet;") (List.mem_cons_of_mem _ (hs_inG 1 222 rfl rfl))
  subst hsz
  have hD := hD0.self (sz := s.heap.size)
  generalize hAe : va_A [oq6 h h_now h_trial h_images h_imageThere h_teller h_ranks h_court h_sheets h_lf h_lt, (h_sheets, .inl (k 3, 4, .inr (.inr (.inr (.inr (va_up (va_up (va_up (va_up (fun _ => none) 0 (some sh0)) 1 (some sh1)) 2 (some sh2)) 3 (some sh3))))))), oq2 sh0 (s_row 0) (s_la 0) (nI (s_z 0)), oqI k (s_row 0) 40 (s_r 0), oq2 sh1 (s_row 1) (s_la 1) (nI (s_z 1)), oqI k (s_row 1) 40 (s_r 1), oq2 sh2 (s_row 2) (s_la 2) (nI (s_z 2)), oqI k (s_row 2) 40 (s_r 2), oq2 sh3 (s_row 3) (s_la 3) (nI (s_z 3)), oqI k (s_row 3) 40 (s_r 3)] s.heap.size = A at hD ⊢
  have hA : ∀ q : Nat, s.heap.size ≤ q → A q := fun q h => by rw [← hAe]; exact Or.inr h
  have hS : va_S A s.heap s.heap [] := va_S.rf
  have hl := lv_entry ([.ref h, .int i, .int a, .int v]) (n := 5) (Nat.le_of_ble_eq_true rfl)
  rw [lg_entry_eq]
  generalize (lg_sl ([.ref h, .int i, .int a, .int v]) ++ List.replicate (5 - (lg_sl ([.ref h, .int i, .int a, .int v])).length) Slot.unset).toArray = ls at hl ⊢
  have hl : lv_has ls 5 [(0, .ref h), (1, .int i), (2, .int a), (3, .int v)] := hl
  have hP : va_P D vwCl [oq6 h h_now h_trial h_images h_imageThere h_teller h_ranks h_court h_sheets h_lf h_lt, (h_sheets, .inl (k 3, 4, .inr (.inr (.inr (.inr (va_up (va_up (va_up (va_up (fun _ => none) 0 (some sh0)) 1 (some sh1)) 2 (some sh2)) 3 (some sh3))))))), oq2 sh0 (s_row 0) (s_la 0) (nI (s_z 0)), oqI k (s_row 0) 40 (s_r 0), oq2 sh1 (s_row 1) (s_la 1) (nI (s_z 1)), oqI k (s_row 1) 40 (s_r 1), oq2 sh2 (s_row 2) (s_la 2) (nI (s_z 2)), oqI k (s_row 2) 40 (s_r 2), oq2 sh3 (s_row 3) (s_la 3) (nI (s_z 3)), oqI k (s_row 3) 40 (s_r 3)] s.heap := hP
  refine lv_iload_n hx hb dX7_lay_0 rfl (lv_at hl 1 rfl) ?_
  refine hs_pi (va_runS (As := [.int i]) (rest := []) ⟨hx, hb, hml, hown, hts⟩ (g_isSheet l D k _ i) (va_cwS 1 hts gX7_lay_X7_isSheet rfl rfl rfl hq_X7_isSheet ⟨Nat.le_of_ble_eq_true rfl, Nat.le_of_ble_eq_true rfl⟩) (hs_preS hK hN (hs_subP (w := []) hP [] rfl) (hD.sub (ws' := []) [] rfl rfl)) rfl rfl hl.1 rfl (lv_room (Nat.le_of_ble_eq_true rfl)) dX7_lay_1 ⟨Nat.le_of_ble_eq_true rfl, Nat.le_of_ble_eq_true rfl⟩) hP hD hS hA (fun r_1 u_3 H locs hw_2 hP hS => ?_)
  refine hs_topi (hsb (hsin i 0 3)) hw_2 ?_
  refine lv_if_ne (tgt := 9) hx hb dX7_lay_4 rfl (fun c_4 => ?_) (fun c_4 => ?_)
  · rcases hs_v03 (hs_nb c_4) with rfl | rfl | rfl | rfl
    · refine lv_aload_n hx hb dX7_lay_9 rfl (lv_at hl 0 rfl) ?_
      refine va_get (D := D) (ci := 6) (v := .ref h_sheets) (C := RX7) (T := TX7) (N := 10) hx hb hts hiX7 hown hK hP 0 rfl rfl 7 (Nat.le_of_ble_eq_true rfl) fl50 (fun _ h9 => h9) rfl dX7_lay_10 ?_
      refine lv_iload_n hx hb dX7_lay_13 rfl (lv_at hl 1 rfl) ?_
      refine va_aldq hx hb hK hP 1 3 rfl rfl (hs_in (by decide)) dX7_lay_14 ?_
      refine W.eq (g2 := F0 m 15 ls (.ref sh0 :: [])) rfl ?_
      refine lv_iload_n hx hb dX7_lay_15 rfl (lv_at hl 2 rfl) ?_
      refine hs_ciM (va_runV (As := [.int a]) (rest := []) ⟨hx, hb, hml, hown, hts⟩ (g_faultAt l D k _ sh0 (s_row 0) (s_la 0) (s_z 0) a (by omega)) (cwV 1 hts gX7_lay_X3_faultAt rfl rfl rfl ⟨rfl, hq_X3_faultAt⟩ ⟨Nat.le_of_ble_eq_true rfl, Nat.le_of_ble_eq_true rfl⟩) (hs_preV hK hN (hs_subP (w := [_]) hP [2] rfl) (hD.sub (ws' := [_]) [2] (hs_upnd rfl) rfl) (ci := 2) (q0 := 0) rfl rfl) rfl rfl hl.1 rfl (lv_room (Nat.le_of_ble_eq_true rfl)) dX7_lay_16 ⟨Nat.le_of_ble_eq_true rfl, Nat.le_of_ble_eq_true rfl⟩) hP hD hS hA [true, true, false, true, true, true, true, true, true, true] [_, _, _, _, _, _, _, _, _] [_] rfl [0] rfl [0] (fun u_7 => [_]) (fun _ => rfl) (hs_upnd rfl) [true, true, false, true, true, true, true, true, true, true] (fun u_7 => [_, _, _, _, _, _, _, _, _, _]) (fun _ => rfl) (fun r_5 u_7 H locs hw_6 hP hD hS => ?_)
      refine hs_topi (if (s_la 0) = -1 then 1 else if hslt a (s_z 0) then 0 else 2) hw_6 ?_
      refine lv_istore (lv' := [(4, .int (if (s_la 0) = -1 then 1 else if hslt a (s_z 0) then 0 else 2)), (0, .ref h), (1, .int 0), (2, .int a), (3, .int v)]) hx hb dX7_lay_19 hl (Nat.le_of_ble_eq_true rfl) rfl (fun ls hl => ?_)
      refine lv_iload hx hb dX7_lay_21 (lv_at hl 0 rfl) ?_
      refine lv_if_eq (tgt := 32) hx hb dX7_lay_23 rfl (fun c_8 => ?_) (fun c_8 => ?_)
      · have hfa := hs_fa0 c_8
        obtain ⟨aj, haj, rfl⟩ := hslt_ex hfa.1
        refine lv_aload_n hx hb dX7_lay_32 rfl (lv_at hl 1 rfl) ?_
        refine va_get (D := D) (ci := 6) (v := .ref h_sheets) (C := RX7) (T := TX7) (N := 10) hx hb hts hiX7 hown hK hP 0 rfl rfl 7 (Nat.le_of_ble_eq_true rfl) fl50 (fun _ h9 => h9) rfl dX7_lay_33 ?_
        refine lv_iload_n hx hb dX7_lay_36 rfl (lv_at hl 2 rfl) ?_
        refine va_aldq hx hb hK hP 1 3 rfl rfl (hs_in (by decide)) dX7_lay_37 ?_
        refine W.eq (g2 := F0 m 38 ls (.ref sh0 :: [])) rfl ?_
        refine lv_iload_n hx hb dX7_lay_38 rfl (lv_at hl 3 rfl) ?_
        refine lv_iload_n hx hb dX7_lay_39 rfl (lv_at hl 4 rfl) ?_
        refine hs_cvM (va_runV (As := [.int (nI aj), .int v]) (rest := []) ⟨hx, hb, hml, hown, hts⟩ (gf_put l D k _ sh0 (s_row 0) (s_la 0) (s_z 0) aj v (s_r 0) (by omega)) (cwV 2 hts gX7_lay_X3_put rfl rfl rfl ⟨rfl, hq_X3_put⟩ ⟨Nat.le_of_ble_eq_true rfl, Nat.le_of_ble_eq_true rfl⟩) (hs_preV hK hN (hs_subP (w := [_, _]) hP [2, 3] rfl) (hD.sub (ws' := [_, _]) [2, 3] (hs_upnd rfl) rfl) (ci := 2) (q0 := 0) rfl rfl) rfl rfl hl.1 rfl (lv_room (Nat.le_of_ble_eq_true rfl)) dX7_lay_40 ⟨Nat.le_of_ble_eq_true rfl, Nat.le_of_ble_eq_true rfl⟩) hP hD hS hA [true, true, false, false, true, true, true, true, true, true] [_, _, _, _, _, _, _, _] [_, _] rfl [0, 1] rfl [0, 1] (fun u_11 => [_, _]) (fun _ => rfl) (hs_upnd rfl) [true, true, false, false, true, true, true, true, true, true] (fun u_11 => [_, _, _, _, _, _, _, _, _, _]) (fun _ => rfl) (fun u_11 H locs hw_10 hP hD hS => ?_)
        have hw_10 : u_11 = upd (s_r 0) aj (lnV (s_la 0) v) := hw_10
        subst hw_10
        refine lv_iconst (v := 1) hx hb dX7_lay_43 hki_1 ?_
        exact hs_iret hx hb hr hlocks hK hP hD hS (fun j => ([(upd (s_r 0) aj (lnV (s_la 0) v)), s_r 1, s_r 2, s_r 3] : List (Nat → Int32)).getD j hsz) [0, 1, 2, 3, 4, 5, 6, 7, 8, 9] rfl (hs_upnd rfl) dX7_lay_44 (⟨(A_layf_yes hfa).trans (by rfl), Or.inr ⟨rfl, 0, aj, by decide, haj, rfl, rfl, rfl, fun k h1 h2 => by rcases (show k = 1 ∨ k = 2 ∨ k = 3 by omega) with rfl | rfl | rfl <;> rfl⟩⟩)
      · refine lv_bipush (v := (-10)) hx hb dX7_lay_26 hkb_m10 ?_
        refine lv_iload hx hb dX7_lay_28 (lv_at hl 0 rfl) ?_
        refine lv_isub hx hb dX7_lay_30 ?_
        exact hs_iret hx hb hr hlocks hK hP hD hS s_r [0, 1, 2, 3, 4, 5, 6, 7, 8, 9] rfl (hs_upnd rfl) dX7_lay_31 (⟨(A_layf_no c_8).trans (by rfl), Or.inl ⟨by first | decide | exact A_ne1 c_8, rfl⟩⟩)
    · refine lv_aload_n hx hb dX7_lay_9 rfl (lv_at hl 0 rfl) ?_
      refine va_get (D := D) (ci := 6) (v := .ref h_sheets) (C := RX7) (T := TX7) (N := 10) hx hb hts hiX7 hown hK hP 0 rfl rfl 7 (Nat.le_of_ble_eq_true rfl) fl50 (fun _ h9 => h9) rfl dX7_lay_10 ?_
      refine lv_iload_n hx hb dX7_lay_13 rfl (lv_at hl 1 rfl) ?_
      refine va_aldq hx hb hK hP 1 3 rfl rfl (hs_in (by decide)) dX7_lay_14 ?_
      refine W.eq (g2 := F0 m 15 ls (.ref sh1 :: [])) rfl ?_
      refine lv_iload_n hx hb dX7_lay_15 rfl (lv_at hl 2 rfl) ?_
      refine hs_ciM (va_runV (As := [.int a]) (rest := []) ⟨hx, hb, hml, hown, hts⟩ (g_faultAt l D k _ sh1 (s_row 1) (s_la 1) (s_z 1) a (by omega)) (cwV 1 hts gX7_lay_X3_faultAt rfl rfl rfl ⟨rfl, hq_X3_faultAt⟩ ⟨Nat.le_of_ble_eq_true rfl, Nat.le_of_ble_eq_true rfl⟩) (hs_preV hK hN (hs_subP (w := [_]) hP [4] rfl) (hD.sub (ws' := [_]) [4] (hs_upnd rfl) rfl) (ci := 2) (q0 := 0) rfl rfl) rfl rfl hl.1 rfl (lv_room (Nat.le_of_ble_eq_true rfl)) dX7_lay_16 ⟨Nat.le_of_ble_eq_true rfl, Nat.le_of_ble_eq_true rfl⟩) hP hD hS hA [true, true, true, true, false, true, true, true, true, true] [_, _, _, _, _, _, _, _, _] [_] rfl [0] rfl [0] (fun u_14 => [_]) (fun _ => rfl) (hs_upnd rfl) [true, true, true, true, false, true, true, true, true, true] (fun u_14 => [_, _, _, _, _, _, _, _, _, _]) (fun _ => rfl) (fun r_12 u_14 H locs hw_13 hP hD hS => ?_)
      refine hs_topi (if (s_la 1) = -1 then 1 else if hslt a (s_z 1) then 0 else 2) hw_13 ?_
      refine lv_istore (lv' := [(4, .int (if (s_la 1) = -1 then 1 else if hslt a (s_z 1) then 0 else 2)), (0, .ref h), (1, .int 1), (2, .int a), (3, .int v)]) hx hb dX7_lay_19 hl (Nat.le_of_ble_eq_true rfl) rfl (fun ls hl => ?_)
      refine lv_iload hx hb dX7_lay_21 (lv_at hl 0 rfl) ?_
      refine lv_if_eq (tgt := 32) hx hb dX7_lay_23 rfl (fun c_15 => ?_) (fun c_15 => ?_)
      · have hfa := hs_fa0 c_15
        obtain ⟨aj, haj, rfl⟩ := hslt_ex hfa.1
        refine lv_aload_n hx hb dX7_lay_32 rfl (lv_at hl 1 rfl) ?_
        refine va_get (D := D) (ci := 6) (v := .ref h_sheets) (C := RX7) (T := TX7) (N := 10) hx hb hts hiX7 hown hK hP 0 rfl rfl 7 (Nat.le_of_ble_eq_true rfl) fl50 (fun _ h9 => h9) rfl dX7_lay_33 ?_
        refine lv_iload_n hx hb dX7_lay_36 rfl (lv_at hl 2 rfl) ?_
        refine va_aldq hx hb hK hP 1 3 rfl rfl (hs_in (by decide)) dX7_lay_37 ?_
        refine W.eq (g2 := F0 m 38 ls (.ref sh1 :: [])) rfl ?_
        refine lv_iload_n hx hb dX7_lay_38 rfl (lv_at hl 3 rfl) ?_
        refine lv_iload_n hx hb dX7_lay_39 rfl (lv_at hl 4 rfl) ?_
        refine hs_cvM (va_runV (As := [.int (nI aj), .int v]) (rest := []) ⟨hx, hb, hml, hown, hts⟩ (gf_put l D k _ sh1 (s_row 1) (s_la 1) (s_z 1) aj v (s_r 1) (by omega)) (cwV 2 hts gX7_lay_X3_put rfl rfl rfl ⟨rfl, hq_X3_put⟩ ⟨Nat.le_of_ble_eq_true rfl, Nat.le_of_ble_eq_true rfl⟩) (hs_preV hK hN (hs_subP (w := [_, _]) hP [4, 5] rfl) (hD.sub (ws' := [_, _]) [4, 5] (hs_upnd rfl) rfl) (ci := 2) (q0 := 0) rfl rfl) rfl rfl hl.1 rfl (lv_room (Nat.le_of_ble_eq_true rfl)) dX7_lay_40 ⟨Nat.le_of_ble_eq_true rfl, Nat.le_of_ble_eq_true rfl⟩) hP hD hS hA [true, true, true, true, false, false, true, true, true, true] [_, _, _, _, _, _, _, _] [_, _] rfl [0, 1] rfl [0, 1] (fun u_18 => [_, _]) (fun _ => rfl) (hs_upnd rfl) [true, true, true, true, false, false, true, true, true, true] (fun u_18 => [_, _, _, _, _, _, _, _, _, _]) (fun _ => rfl) (fun u_18 H locs hw_17 hP hD hS => ?_)
        have hw_17 : u_18 = upd (s_r 1) aj (lnV (s_la 1) v) := hw_17
        subst hw_17
        refine lv_iconst (v := 1) hx hb dX7_lay_43 hki_1 ?_
        exact hs_iret hx hb hr hlocks hK hP hD hS (fun j => ([s_r 0, (upd (s_r 1) aj (lnV (s_la 1) v)), s_r 2, s_r 3] : List (Nat → Int32)).getD j hsz) [0, 1, 2, 3, 4, 5, 6, 7, 8, 9] rfl (hs_upnd rfl) dX7_lay_44 (⟨(A_layf_yes hfa).trans (by rfl), Or.inr ⟨rfl, 1, aj, by decide, haj, rfl, rfl, rfl, fun k h1 h2 => by rcases (show k = 0 ∨ k = 2 ∨ k = 3 by omega) with rfl | rfl | rfl <;> rfl⟩⟩)
      · refine lv_bipush (v := (-10)) hx hb dX7_lay_26 hkb_m10 ?_
        refine lv_iload hx hb dX7_lay_28 (lv_at hl 0 rfl) ?_
        refine lv_isub hx hb dX7_lay_30 ?_
        exact hs_iret hx hb hr hlocks hK hP hD hS s_r [0, 1, 2, 3, 4, 5, 6, 7, 8, 9] rfl (hs_upnd rfl) dX7_lay_31 (⟨(A_layf_no c_15).trans (by rfl), Or.inl ⟨by first | decide | exact A_ne1 c_15, rfl⟩⟩)
    · refine lv_aload_n hx hb dX7_lay_9 rfl (lv_at hl 0 rfl) ?_
      refine va_get (D := D) (ci := 6) (v := .ref h_sheets) (C := RX7) (T := TX7) (N := 10) hx hb hts hiX7 hown hK hP 0 rfl rfl 7 (Nat.le_of_ble_eq_true rfl) fl50 (fun _ h9 => h9) rfl dX7_lay_10 ?_
      refine lv_iload_n hx hb dX7_lay_13 rfl (lv_at hl 1 rfl) ?_
      refine va_aldq hx hb hK hP 1 3 rfl rfl (hs_in (by decide)) dX7_lay_14 ?_
      refine W.eq (g2 := F0 m 15 ls (.ref sh2 :: [])) rfl ?_
      refine lv_iload_n hx hb dX7_lay_15 rfl (lv_at hl 2 rfl) ?_
      refine hs_ciM (va_runV (As := [.int a]) (rest := []) ⟨hx, hb, hml, hown, hts⟩ (g_faultAt l D k _ sh2 (s_row 2) (s_la 2) (s_z 2) a (by omega)) (cwV 1 hts gX7_lay_X3_faultAt rfl rfl rfl ⟨rfl, hq_X3_faultAt⟩ ⟨Nat.le_of_ble_eq_true rfl, Nat.le_of_ble_eq_true rfl⟩) (hs_preV hK hN (hs_subP (w := [_]) hP [6] rfl) (hD.sub (ws' := [_]) [6] (hs_upnd rfl) rfl) (ci := 2) (q0 := 0) rfl rfl) rfl rfl hl.1 rfl (lv_room (Nat.le_of_ble_eq_true rfl)) dX7_lay_16 ⟨Nat.le_of_ble_eq_true rfl, Nat.le_of_ble_eq_true rfl⟩) hP hD hS hA [true, true, true, true, true, true, false, true, true, true] [_, _, _, _, _, _, _, _, _] [_] rfl [0] rfl [0] (fun u_21 => [_]) (fun _ => rfl) (hs_upnd rfl) [true, true, true, true, true, true, false, true, true, true] (fun u_21 => [_, _, _, _, _, _, _, _, _, _]) (fun _ => rfl) (fun r_19 u_21 H locs hw_20 hP hD hS => ?_)
      refine hs_topi (if (s_la 2) = -1 then 1 else if hslt a (s_z 2) then 0 else 2) hw_20 ?_
      refine lv_istore (lv' := [(4, .int (if (s_la 2) = -1 then 1 else if hslt a (s_z 2) then 0 else 2)), (0, .ref h), (1, .int 2), (2, .int a), (3, .int v)]) hx hb dX7_lay_19 hl (Nat.le_of_ble_eq_true rfl) rfl (fun ls hl => ?_)
      refine lv_iload hx hb dX7_lay_21 (lv_at hl 0 rfl) ?_
      refine lv_if_eq (tgt := 32) hx hb dX7_lay_23 rfl (fun c_22 => ?_) (fun c_22 => ?_)
      · have hfa := hs_fa0 c_22
        obtain ⟨aj, haj, rfl⟩ := hslt_ex hfa.1
        refine lv_aload_n hx hb dX7_lay_32 rfl (lv_at hl 1 rfl) ?_
        refine va_get (D := D) (ci := 6) (v := .ref h_sheets) (C := RX7) (T := TX7) (N := 10) hx hb hts hiX7 hown hK hP 0 rfl rfl 7 (Nat.le_of_ble_eq_true rfl) fl50 (fun _ h9 => h9) rfl dX7_lay_33 ?_
        refine lv_iload_n hx hb dX7_lay_36 rfl (lv_at hl 2 rfl) ?_
        refine va_aldq hx hb hK hP 1 3 rfl rfl (hs_in (by decide)) dX7_lay_37 ?_
        refine W.eq (g2 := F0 m 38 ls (.ref sh2 :: [])) rfl ?_
        refine lv_iload_n hx hb dX7_lay_38 rfl (lv_at hl 3 rfl) ?_
        refine lv_iload_n hx hb dX7_lay_39 rfl (lv_at hl 4 rfl) ?_
        refine hs_cvM (va_runV (As := [.int (nI aj), .int v]) (rest := []) ⟨hx, hb, hml, hown, hts⟩ (gf_put l D k _ sh2 (s_row 2) (s_la 2) (s_z 2) aj v (s_r 2) (by omega)) (cwV 2 hts gX7_lay_X3_put rfl rfl rfl ⟨rfl, hq_X3_put⟩ ⟨Nat.le_of_ble_eq_true rfl, Nat.le_of_ble_eq_true rfl⟩) (hs_preV hK hN (hs_subP (w := [_, _]) hP [6, 7] rfl) (hD.sub (ws' := [_, _]) [6, 7] (hs_upnd rfl) rfl) (ci := 2) (q0 := 0) rfl rfl) rfl rfl hl.1 rfl (lv_room (Nat.le_of_ble_eq_true rfl)) dX7_lay_40 ⟨Nat.le_of_ble_eq_true rfl, Nat.le_of_ble_eq_true rfl⟩) hP hD hS hA [true, true, true, true, true, true, false, false, true, true] [_, _, _, _, _, _, _, _] [_, _] rfl [0, 1] rfl [0, 1] (fun u_25 => [_, _]) (fun _ => rfl) (hs_upnd rfl) [true, true, true, true, true, true, false, false, true, true] (fun u_25 => [_, _, _, _, _, _, _, _, _, _]) (fun _ => rfl) (fun u_25 H locs hw_24 hP hD hS => ?_)
        have hw_24 : u_25 = upd (s_r 2) aj (lnV (s_la 2) v) := hw_24
        subst hw_24
        refine lv_iconst (v := 1) hx hb dX7_lay_43 hki_1 ?_
        exact hs_iret hx hb hr hlocks hK hP hD hS (fun j => ([s_r 0, s_r 1, (upd (s_r 2) aj (lnV (s_la 2) v)), s_r 3] : List (Nat → Int32)).getD j hsz) [0, 1, 2, 3, 4, 5, 6, 7, 8, 9] rfl (hs_upnd rfl) dX7_lay_44 (⟨(A_layf_yes hfa).trans (by rfl), Or.inr ⟨rfl, 2, aj, by decide, haj, rfl, rfl, rfl, fun k h1 h2 => by rcases (show k = 0 ∨ k = 1 ∨ k = 3 by omega) with rfl | rfl | rfl <;> rfl⟩⟩)
      · refine lv_bipush (v := (-10)) hx hb dX7_lay_26 hkb_m10 ?_
        refine lv_iload hx hb dX7_lay_28 (lv_at hl 0 rfl) ?_
        refine lv_isub hx hb dX7_lay_30 ?_
        exact hs_iret hx hb hr hlocks hK hP hD hS s_r [0, 1, 2, 3, 4, 5, 6, 7, 8, 9] rfl (hs_upnd rfl) dX7_lay_31 (⟨(A_layf_no c_22).trans (by rfl), Or.inl ⟨by first | decide | exact A_ne1 c_22, rfl⟩⟩)
    · refine lv_aload_n hx hb dX7_lay_9 rfl (lv_at hl 0 rfl) ?_
      refine va_get (D := D) (ci := 6) (v := .ref h_sheets) (C := RX7) (T := TX7) (N := 10) hx hb hts hiX7 hown hK hP 0 rfl rfl 7 (Nat.le_of_ble_eq_true rfl) fl50 (fun _ h9 => h9) rfl dX7_lay_10 ?_
      refine lv_iload_n hx hb dX7_lay_13 rfl (lv_at hl 1 rfl) ?_
      refine va_aldq hx hb hK hP 1 3 rfl rfl (hs_in (by decide)) dX7_lay_14 ?_
      refine W.eq (g2 := F0 m 15 ls (.ref sh3 :: [])) rfl ?_
      refine lv_iload_n hx hb dX7_lay_15 rfl (lv_at hl 2 rfl) ?_
      refine hs_ciM (va_runV (As := [.int a]) (rest := []) ⟨hx, hb, hml, hown, hts⟩ (g_faultAt l D k _ sh3 (s_row 3) (s_la 3) (s_z 3) a (by omega)) (cwV 1 hts gX7_lay_X3_faultAt rfl rfl rfl ⟨rfl, hq_X3_faultAt⟩ ⟨Nat.le_of_ble_eq_true rfl, Nat.le_of_ble_eq_true rfl⟩) (hs_preV hK hN (hs_subP (w := [_]) hP [8] rfl) (hD.sub (ws' := [_]) [8] (hs_upnd rfl) rfl) (ci := 2) (q0 := 0) rfl rfl) rfl rfl hl.1 rfl (lv_room (Nat.le_of_ble_eq_true rfl)) dX7_lay_16 ⟨Nat.le_of_ble_eq_true rfl, Nat.le_of_ble_eq_true rfl⟩) hP hD hS hA [true, true, true, true, true, true, true, true, false, true] [_, _, _, _, _, _, _, _, _] [_] rfl [0] rfl [0] (fun u_28 => [_]) (fun _ => rfl) (hs_upnd rfl) [true, true, true, true, true, true, true, true, false, true] (fun u_28 => [_, _, _, _, _, _, _, _, _, _]) (fun _ => rfl) (fun r_26 u_28 H locs hw_27 hP hD hS => ?_)
      refine hs_topi (if (s_la 3) = -1 then 1 else if hslt a (s_z 3) then 0 else 2) hw_27 ?_
      refine lv_istore (lv' := [(4, .int (if (s_la 3) = -1 then 1 else if hslt a (s_z 3) then 0 else 2)), (0, .ref h), (1, .int 3), (2, .int a), (3, .int v)]) hx hb dX7_lay_19 hl (Nat.le_of_ble_eq_true rfl) rfl (fun ls hl => ?_)
      refine lv_iload hx hb dX7_lay_21 (lv_at hl 0 rfl) ?_
      refine lv_if_eq (tgt := 32) hx hb dX7_lay_23 rfl (fun c_29 => ?_) (fun c_29 => ?_)
      · have hfa := hs_fa0 c_29
        obtain ⟨aj, haj, rfl⟩ := hslt_ex hfa.1
        refine lv_aload_n hx hb dX7_lay_32 rfl (lv_at hl 1 rfl) ?_
        refine va_get (D := D) (ci := 6) (v := .ref h_sheets) (C := RX7) (T := TX7) (N := 10) hx hb hts hiX7 hown hK hP 0 rfl rfl 7 (Nat.le_of_ble_eq_true rfl) fl50 (fun _ h9 => h9) rfl dX7_lay_33 ?_
        refine lv_iload_n hx hb dX7_lay_36 rfl (lv_at hl 2 rfl) ?_
        refine va_aldq hx hb hK hP 1 3 rfl rfl (hs_in (by decide)) dX7_lay_37 ?_
        refine W.eq (g2 := F0 m 38 ls (.ref sh3 :: [])) rfl ?_
        refine lv_iload_n hx hb dX7_lay_38 rfl (lv_at hl 3 rfl) ?_
        refine lv_iload_n hx hb dX7_lay_39 rfl (lv_at hl 4 rfl) ?_
        refine hs_cvM (va_runV (As := [.int (nI aj), .int v]) (rest := []) ⟨hx, hb, hml, hown, hts⟩ (gf_put l D k _ sh3 (s_row 3) (s_la 3) (s_z 3) aj v (s_r 3) (by omega)) (cwV 2 hts gX7_lay_X3_put rfl rfl rfl ⟨rfl, hq_X3_put⟩ ⟨Nat.le_of_ble_eq_true rfl, Nat.le_of_ble_eq_true rfl⟩) (hs_preV hK hN (hs_subP (w := [_, _]) hP [8, 9] rfl) (hD.sub (ws' := [_, _]) [8, 9] (hs_upnd rfl) rfl) (ci := 2) (q0 := 0) rfl rfl) rfl rfl hl.1 rfl (lv_room (Nat.le_of_ble_eq_true rfl)) dX7_lay_40 ⟨Nat.le_of_ble_eq_true rfl, Nat.le_of_ble_eq_true rfl⟩) hP hD hS hA [true, true, true, true, true, true, true, true, false, false] [_, _, _, _, _, _, _, _] [_, _] rfl [0, 1] rfl [0, 1] (fun u_32 => [_, _]) (fun _ => rfl) (hs_upnd rfl) [true, true, true, true, true, true, true, true, false, false] (fun u_32 => [_, _, _, _, _, _, _, _, _, _]) (fun _ => rfl) (fun u_32 H locs hw_31 hP hD hS => ?_)
        have hw_31 : u_32 = upd (s_r 3) aj (lnV (s_la 3) v) := hw_31
        subst hw_31
        refine lv_iconst (v := 1) hx hb dX7_lay_43 hki_1 ?_
        exact hs_iret hx hb hr hlocks hK hP hD hS (fun j => ([s_r 0, s_r 1, s_r 2, (upd (s_r 3) aj (lnV (s_la 3) v))] : List (Nat → Int32)).getD j hsz) [0, 1, 2, 3, 4, 5, 6, 7, 8, 9] rfl (hs_upnd rfl) dX7_lay_44 (⟨(A_layf_yes hfa).trans (by rfl), Or.inr ⟨rfl, 3, aj, by decide, haj, rfl, rfl, rfl, fun k h1 h2 => by rcases (show k = 0 ∨ k = 1 ∨ k = 2 by omega) with rfl | rfl | rfl <;> rfl⟩⟩)
      · refine lv_bipush (v := (-10)) hx hb dX7_lay_26 hkb_m10 ?_
        refine lv_iload hx hb dX7_lay_28 (lv_at hl 0 rfl) ?_
        refine lv_isub hx hb dX7_lay_30 ?_
        exact hs_iret hx hb hr hlocks hK hP hD hS s_r [0, 1, 2, 3, 4, 5, 6, 7, 8, 9] rfl (hs_upnd rfl) dX7_lay_31 (⟨(A_layf_no c_29).trans (by rfl), Or.inl ⟨by first | decide | exact A_ne1 c_29, rfl⟩⟩)
  · refine lv_iconst (v := (-1)) hx hb dX7_lay_7 hki_m1 ?_
    exact hs_iret hx hb hr hlocks hK hP hD hS s_r [0, 1, 2, 3, 4, 5, 6, 7, 8, 9] rfl (hs_upnd rfl) dX7_lay_8 (⟨by simp only [hsb_0] at c_4; simp [c_4], Or.inl ⟨by first | decide | exact A_ne1 c_4, rfl⟩⟩)
