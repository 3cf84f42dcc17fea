theorem hs_in8 {v : Int32} {n N : Nat} (hn : n ≤ N ∧ n < 2 ^ 30) (h : hsin v 0 (nI n - 1) = true) : vp_in v N := hslt_vp ((hslt_in hn.2).symm.trans h) hn.1

set_option maxHeartbeats 4000000 in
set_option maxRecDepth 100000 in
theorem gp_rule (l : Launch) (D : va_G) (k : Nat → ClassId) (sz : Nat) (h : Nat) (h_now : Nat) (h_trial : Nat) (h_images : Nat) (h_imageThere : Nat) (h_teller : Nat) (h_ranks : Nat) (h_court : Nat) (h_sheets : Nat) (h_lf : Int32) (h_lt : Int32) (n_a : Nat → Nat) (n_N : Nat → Nat) (n_J : Nat → Int32) (n_F : Nat → Nat → Int32) (what : Int32) (hN0 : thN n_N) (hF : thF n_N n_F) (h2 : 2 ≤ n_N 0) : MI l yX7_rule wsX7_rule ({ frames := 1, cells := 0, slots := 0, locals := 22 }) D k [.ref h, .int what] [oq6 h h_now h_trial h_images h_imageThere h_teller h_ranks h_court h_sheets h_lf h_lt, oqT h_now n_a n_N n_J, oqF0 k n_a n_F, oqF1 k n_a n_F, oqF2 k n_a n_F, oqF3 k n_a n_F, oqF4 k n_a n_F, oqF5 k n_a n_F, oqF6 k n_a n_F] sz (fun (r : Int32) (u : Unit) => True) (fun (u : Unit) => [oq6 h h_now h_trial h_images h_imageThere h_teller h_ranks h_court h_sheets h_lf h_lt, oqT h_now n_a n_N n_J, oqF0 k n_a n_F, oqF1 k n_a n_F, oqF2 k n_a n_F, oqF3 k n_a n_F, oqF4 k n_a n_F, oqF5 k n_a n_F, oqF6 k n_a n_F]) := by
  refine Met.ofW (cc := cX7_rule) (maxL := 2) (ret := (some .int)) hpn_X7 rfl ?_
  intro p e s m args below meth c s₁ B hml hv
  obtain ⟨rfl, hsz, hP, hK, hD0, hN⟩ := hv
  have hx := B.exec
  have hb := B.bytes
  have hr := B.returns
  have hlocks := B.notSynchronized
  have hts := atoms_spec (ws := wsX7_rule) B.pre
  have hown := findClass_of_methodNamed B.named
  have hown : s.vm.findClass RX7 = some m.cls := hown
  have hiX6 : ∀ w ∈ u_ws RX6 TX6 15, w ∈ wsX7_rule := fun w9 hw9 => List.mem_cons_of_mem _ (igX6 w9 hw9)
  have hiX7 : ∀ w ∈ u_ws RX7 TX7 10, w ∈ wsX7_rule := fun w9 hw9 => List.mem_cons_of_mem _ (igX7 w9 hw9)
  have fl10 := hts (.fieldLink RX7 10 "HalfScales" "now" "LHalfScales$Thing;") (List.mem_cons_of_mem _ (hs_inG 1 215 rfl rfl))
  have fl93 := hts (.fieldLink RX7 93 "HalfScales$Thing" "cellCount" "I") (List.mem_cons_of_mem _ (hs_inG 1 53 rfl rfl))
  have fl96 := hts (.fieldLink RX7 96 "HalfScales$Thing" "peopleCount" "I") (List.mem_cons_of_mem _ (hs_inG 1 57 rfl rfl))
  have fl99 := hts (.fieldLink RX7 99 "HalfScales$Thing" "slip" "I") (List.mem_cons_of_mem _ (hs_inG 1 61 rfl rfl))
  have fl102 := hts (.fieldLink RX7 102 "HalfScales$Thing" "fine" "I") (List.mem_cons_of_mem _ (hs_inG 1 65 rfl rfl))
  have fl105 := hts (.fieldLink RX7 105 "HalfScales$Thing" "appealCount" "I") (List.mem_cons_of_mem _ (hs_inG 1 67 rfl rfl))
  have fl108 := hts (.fieldLink RX7 108 "HalfScales$Thing" "halfCount" "I") (List.mem_cons_of_mem _ (hs_inG 1 71 rfl rfl))
  have fl111 := hts (.fieldLink RX7 111 "HalfScales$Thing" "pairCount" "I") (List.mem_cons_of_mem _ (hs_inG 1 75 rfl rfl))
  have hNn := hN0
  obtain ⟨I0, I1, ⟨I2, I2b⟩, I3, I4⟩ := hN0
  subst hsz
  have hD := hD0.self (sz := s.heap.size)
  generalize hAe : va_A [oq6 h h_now h_trial h_images h_imageThere h_teller h_ranks h_court h_sheets h_lf h_lt, oqT h_now n_a n_N n_J, oqF0 k n_a n_F, oqF1 k n_a n_F, oqF2 k n_a n_F, oqF3 k n_a n_F, oqF4 k n_a n_F, oqF5 k n_a n_F, oqF6 k n_a n_F] s.heap.size = A at hD ⊢
  have hA : ∀ q : Nat, s.heap.size ≤ q → A q := fun q h => by rw [← hAe]; exact Or.inr h
  have hS : va_S A s.heap s.heap [] := va_S.rf
  have hl := lv_entry ([.ref h, .int what]) (n := 2) (Nat.le_of_ble_eq_true rfl)
  rw [lg_entry_eq]
  generalize (lg_sl ([.ref h, .int what]) ++ List.replicate (2 - (lg_sl ([.ref h, .int what])).length) Slot.unset).toArray = ls at hl ⊢
  have hl : lv_has ls 2 [(0, .ref h), (1, .int what)] := hl
  have hP : va_P D vwCl [oq6 h h_now h_trial h_images h_imageThere h_teller h_ranks h_court h_sheets h_lf h_lt, oqT h_now n_a n_N n_J, oqF0 k n_a n_F, oqF1 k n_a n_F, oqF2 k n_a n_F, oqF3 k n_a n_F, oqF4 k n_a n_F, oqF5 k n_a n_F, oqF6 k n_a n_F] s.heap := hP
  refine lv_iload_n hx hb dX7_rule_0 rfl (lv_at hl 1 rfl) ?_
  by_cases sw_1 : what = 0
  · subst sw_1
    refine lv_tableIn (off := 47) (tgt := 48) hx hb dX7_rule_1 (by decide) (by decide) (by rfl) (by decide) ?_
    refine lv_aload_n hx hb dX7_rule_48 rfl (lv_at hl 0 rfl) ?_
    refine va_get (D := D) (ci := 6) (v := .ref h_now) (C := RX7) (T := TX7) (N := 10) hx hb hts hiX7 hown hK hP 0 rfl rfl 0 (Nat.le_of_ble_eq_true rfl) fl10 (fun _ h9 => h9) rfl dX7_rule_49 ?_
    refine va_get (D := D) (ci := 5) (v := .int (nI (n_N 0))) (C := RX6) (T := TX6) (N := 15) hx hb hts hiX6 hown hK hP 1 rfl rfl 7 (Nat.le_of_ble_eq_true rfl) fl93 (fun _ h9 => h9) rfl dX7_rule_52 ?_
    exact hs_iret hx hb hr hlocks hK hP hD hS () [0, 1, 2, 3, 4, 5, 6, 7, 8] rfl (hs_upnd rfl) dX7_rule_55 (trivial)
  by_cases sw_2 : what = 1
  · subst sw_2
    refine lv_tableIn (off := 55) (tgt := 56) hx hb dX7_rule_1 (by decide) (by decide) (by rfl) (by decide) ?_
    refine lv_aload_n hx hb dX7_rule_56 rfl (lv_at hl 0 rfl) ?_
    refine va_get (D := D) (ci := 6) (v := .ref h_now) (C := RX7) (T := TX7) (N := 10) hx hb hts hiX7 hown hK hP 0 rfl rfl 0 (Nat.le_of_ble_eq_true rfl) fl10 (fun _ h9 => h9) rfl dX7_rule_57 ?_
    refine va_get (D := D) (ci := 5) (v := .int (nI (n_N 1))) (C := RX6) (T := TX6) (N := 15) hx hb hts hiX6 hown hK hP 1 rfl rfl 8 (Nat.le_of_ble_eq_true rfl) fl96 (fun _ h9 => h9) rfl dX7_rule_60 ?_
    exact hs_iret hx hb hr hlocks hK hP hD hS () [0, 1, 2, 3, 4, 5, 6, 7, 8] rfl (hs_upnd rfl) dX7_rule_63 (trivial)
  by_cases sw_3 : what = 2
  · subst sw_3
    refine lv_tableIn (off := 63) (tgt := 64) hx hb dX7_rule_1 (by decide) (by decide) (by rfl) (by decide) ?_
    refine lv_aload_n hx hb dX7_rule_64 rfl (lv_at hl 0 rfl) ?_
    refine va_get (D := D) (ci := 6) (v := .ref h_now) (C := RX7) (T := TX7) (N := 10) hx hb hts hiX7 hown hK hP 0 rfl rfl 0 (Nat.le_of_ble_eq_true rfl) fl10 (fun _ h9 => h9) rfl dX7_rule_65 ?_
    refine va_get (D := D) (ci := 5) (v := .int (n_J 0)) (C := RX6) (T := TX6) (N := 15) hx hb hts hiX6 hown hK hP 1 rfl rfl 9 (Nat.le_of_ble_eq_true rfl) fl99 (fun _ h9 => h9) rfl dX7_rule_68 ?_
    exact hs_iret hx hb hr hlocks hK hP hD hS () [0, 1, 2, 3, 4, 5, 6, 7, 8] rfl (hs_upnd rfl) dX7_rule_71 (trivial)
  by_cases sw_4 : what = 3
  · subst sw_4
    refine lv_tableIn (off := 71) (tgt := 72) hx hb dX7_rule_1 (by decide) (by decide) (by rfl) (by decide) ?_
    refine lv_aload_n hx hb dX7_rule_72 rfl (lv_at hl 0 rfl) ?_
    refine va_get (D := D) (ci := 6) (v := .ref h_now) (C := RX7) (T := TX7) (N := 10) hx hb hts hiX7 hown hK hP 0 rfl rfl 0 (Nat.le_of_ble_eq_true rfl) fl10 (fun _ h9 => h9) rfl dX7_rule_73 ?_
    refine va_get (D := D) (ci := 5) (v := .int (n_J 1)) (C := RX6) (T := TX6) (N := 15) hx hb hts hiX6 hown hK hP 1 rfl rfl 10 (Nat.le_of_ble_eq_true rfl) fl102 (fun _ h9 => h9) rfl dX7_rule_76 ?_
    exact hs_iret hx hb hr hlocks hK hP hD hS () [0, 1, 2, 3, 4, 5, 6, 7, 8] rfl (hs_upnd rfl) dX7_rule_79 (trivial)
  by_cases sw_5 : what = 4
  · subst sw_5
    refine lv_tableIn (off := 79) (tgt := 80) hx hb dX7_rule_1 (by decide) (by decide) (by rfl) (by decide) ?_
    refine lv_aload_n hx hb dX7_rule_80 rfl (lv_at hl 0 rfl) ?_
    refine va_get (D := D) (ci := 6) (v := .ref h_now) (C := RX7) (T := TX7) (N := 10) hx hb hts hiX7 hown hK hP 0 rfl rfl 0 (Nat.le_of_ble_eq_true rfl) fl10 (fun _ h9 => h9) rfl dX7_rule_81 ?_
    refine va_get (D := D) (ci := 5) (v := .int (n_J 2)) (C := RX6) (T := TX6) (N := 15) hx hb hts hiX6 hown hK hP 1 rfl rfl 11 (Nat.le_of_ble_eq_true rfl) fl105 (fun _ h9 => h9) rfl dX7_rule_84 ?_
    exact hs_iret hx hb hr hlocks hK hP hD hS () [0, 1, 2, 3, 4, 5, 6, 7, 8] rfl (hs_upnd rfl) dX7_rule_87 (trivial)
  by_cases sw_6 : what = 5
  · subst sw_6
    refine lv_tableIn (off := 87) (tgt := 88) hx hb dX7_rule_1 (by decide) (by decide) (by rfl) (by decide) ?_
    refine lv_aload_n hx hb dX7_rule_88 rfl (lv_at hl 0 rfl) ?_
    refine va_get (D := D) (ci := 6) (v := .ref h_now) (C := RX7) (T := TX7) (N := 10) hx hb hts hiX7 hown hK hP 0 rfl rfl 0 (Nat.le_of_ble_eq_true rfl) fl10 (fun _ h9 => h9) rfl dX7_rule_89 ?_
    refine va_get (D := D) (ci := 5) (v := .int (nI (n_N 2))) (C := RX6) (T := TX6) (N := 15) hx hb hts hiX6 hown hK hP 1 rfl rfl 12 (Nat.le_of_ble_eq_true rfl) fl108 (fun _ h9 => h9) rfl dX7_rule_92 ?_
    exact hs_iret hx hb hr hlocks hK hP hD hS () [0, 1, 2, 3, 4, 5, 6, 7, 8] rfl (hs_upnd rfl) dX7_rule_95 (trivial)
  by_cases sw_7 : what = 6
  · subst sw_7
    refine lv_tableIn (off := 95) (tgt := 96) hx hb dX7_rule_1 (by decide) (by decide) (by rfl) (by decide) ?_
    refine lv_aload_n hx hb dX7_rule_96 rfl (lv_at hl 0 rfl) ?_
    refine va_get (D := D) (ci := 6) (v := .ref h_now) (C := RX7) (T := TX7) (N := 10) hx hb hts hiX7 hown hK hP 0 rfl rfl 0 (Nat.le_of_ble_eq_true rfl) fl10 (fun _ h9 => h9) rfl dX7_rule_97 ?_
    refine va_get (D := D) (ci := 5) (v := .int (nI (n_N 3))) (C := RX6) (T := TX6) (N := 15) hx hb hts hiX6 hown hK hP 1 rfl rfl 13 (Nat.le_of_ble_eq_true rfl) fl111 (fun _ h9 => h9) rfl dX7_rule_100 ?_
    exact hs_iret hx hb hr hlocks hK hP hD hS () [0, 1, 2, 3, 4, 5, 6, 7, 8] rfl (hs_upnd rfl) dX7_rule_103 (trivial)
  by_cases sw_8 : what = 7
  · subst sw_8
    refine lv_tableIn (off := 103) (tgt := 104) hx hb dX7_rule_1 (by decide) (by decide) (by rfl) (by decide) ?_
    refine lv_aload_n hx hb dX7_rule_104 rfl (lv_at hl 0 rfl) ?_
    refine va_get (D := D) (ci := 6) (v := .ref h_now) (C := RX7) (T := TX7) (N := 10) hx hb hts hiX7 hown hK hP 0 rfl rfl 0 (Nat.le_of_ble_eq_true rfl) fl10 (fun _ h9 => h9) rfl dX7_rule_105 ?_
    refine hs_ciM (va_runV (As := []) (rest := []) ⟨hx, hb, hml, hown, hts⟩ (g_allWeights l D k _ h_now n_a n_N n_J n_F (by first | assumption | exact ⟨by first | omega | (dsimp; omega), by first | omega | (dsimp; omega), ⟨by first | omega | (dsimp; omega), by first | omega | (dsimp; omega)⟩, by first | omega | (dsimp; omega), by first | omega | (dsimp; omega)⟩)) (cwV 0 hts gX7_rule_X6_allWeights rfl rfl rfl ⟨rfl, hq_X6_allWeights⟩ ⟨Nat.le_of_ble_eq_true rfl, Nat.le_of_ble_eq_true rfl⟩) (hs_preV hK hN (hs_subP (w := [_, _, _, _, _, _, _, _]) hP [1, 2, 3, 4, 5, 6, 7, 8] rfl) (hD.sub (ws' := [_, _, _, _, _, _, _, _]) [1, 2, 3, 4, 5, 6, 7, 8] (hs_upnd rfl) rfl) (ci := 5) (q0 := 0) rfl rfl) rfl rfl hl.1 rfl (lv_room (Nat.le_of_ble_eq_true rfl)) dX7_rule_108 ⟨Nat.le_of_ble_eq_true rfl, Nat.le_of_ble_eq_true rfl⟩) hP hD hS hA [true, false, false, false, false, false, false, false, false] [_] [_, _, _, _, _, _, _, _] rfl [0, 1, 2, 3, 4, 5, 6, 7] rfl [0, 1, 2, 3, 4, 5, 6, 7] (fun u_11 => [_, _, _, _, _, _, _, _]) (fun _ => rfl) (hs_upnd rfl) [true, false, false, false, false, false, false, false, false] (fun u_11 => [_, _, _, _, _, _, _, _, _]) (fun _ => rfl) (fun r_9 u_11 H locs hw_10 hP hD hS => ?_)
    exact hs_iret hx hb hr hlocks hK hP hD hS () [0, 1, 2, 3, 4, 5, 6, 7, 8] rfl (hs_upnd rfl) dX7_rule_111 (trivial)
  refine lv_tableOut (tgt := 112) hx hb dX7_rule_1 (by have z0 := lv_neT sw_1 (a := 0) rfl; have z1 := lv_neT sw_2 (a := 1) rfl; have z2 := lv_neT sw_3 (a := 2) rfl; have z3 := lv_neT sw_4 (a := 3) rfl; have z4 := lv_neT sw_5 (a := 4) rfl; have z5 := lv_neT sw_6 (a := 5) rfl; have z6 := lv_neT sw_7 (a := 6) rfl; have z7 := lv_neT sw_8 (a := 7) rfl; omega) (by decide) ?_
  refine lv_iconst (v := (-1)) hx hb dX7_rule_112 hki_m1 ?_
  exact hs_iret hx hb hr hlocks hK hP hD hS () [0, 1, 2, 3, 4, 5, 6, 7, 8] rfl (hs_upnd rfl) dX7_rule_113 (trivial)

set_option maxHeartbeats 4000000 in
set_option maxRecDepth 100000 in
theorem gp_fault (l : Launch) (D : va_G) (k : Nat → ClassId) (sz : Nat) (h : Nat) (h_now : Nat) (h_trial : Nat) (h_images : Nat) (h_imageThere : Nat) (h_teller : Nat) (h_ranks : Nat) (h_court : Nat) (h_sheets : Nat) (h_lf : Int32) (h_lt : Int32)  : MI l yX7_fault wsX7_fault ({ frames := 0, cells := 0, slots := 0, locals := 0 }) D k [.ref h] [oq6 h h_now h_trial h_images h_imageThere h_teller h_ranks h_court h_sheets h_lf h_lt] sz (fun (r : Int32) (u : Unit) => True) (fun (u : Unit) => [oq6 h h_now h_trial h_images h_imageThere h_teller h_ranks h_court h_sheets h_lf h_lt]) := by
  refine Met.ofW (cc := cX7_fault) (maxL := 1) (ret := (some .int)) hpn_X7 rfl ?_
  intro p e s m args below meth c s₁ B hml hv
  obtain ⟨rfl, hsz, hP, hK, hD0, hN⟩ := hv
  have hx := B.exec
  have hb := B.bytes
  have hr := B.returns
  have hlocks := B.notSynchronized
  have hts := atoms_spec (ws := wsX7_fault) B.pre
  have hown := findClass_of_methodNamed B.named
  have hown : s.vm.findClass RX7 = some m.cls := hown
  have hiX7 : ∀ w ∈ u_ws RX7 TX7 10, w ∈ wsX7_fault := fun w9 hw9 => List.mem_cons_of_mem _ (igX7 w9 hw9)
  have fl80 := hts (.fieldLink RX7 80 "HalfScales" "latestFault" "I") (List.mem_cons_of_mem _ (hs_inG 1 223 rfl rfl))
  subst hsz
  have hD := hD0.self (sz := s.heap.size)
  generalize hAe : va_A [oq6 h h_now h_trial h_images h_imageThere h_teller h_ranks h_court h_sheets h_lf h_lt] s.heap.size = A at hD ⊢
  have hA : ∀ q : Nat, s.heap.size ≤ q → A q := fun q h => by rw [← hAe]; exact Or.inr h
  have hS : va_S A s.heap s.heap [] := va_S.rf
  have hl := lv_entry ([.ref h]) (n := 1) (Nat.le_of_ble_eq_true rfl)
  rw [lg_entry_eq]
  generalize (lg_sl ([.ref h]) ++ List.replicate (1 - (lg_sl ([.ref h])).length) Slot.unset).toArray = ls at hl ⊢
  have hl : lv_has ls 1 [(0, .ref h)] := hl
  have hP : va_P D vwCl [oq6 h h_now h_trial h_images h_imageThere h_teller h_ranks h_court h_sheets h_lf h_lt] s.heap := hP
  refine lv_aload_n hx hb dX7_fault_0 rfl (lv_at hl 0 rfl) ?_
  refine va_get (D := D) (ci := 6) (v := .int h_lf) (C := RX7) (T := TX7) (N := 10) hx hb hts hiX7 hown hK hP 0 rfl rfl 8 (Nat.le_of_ble_eq_true rfl) fl80 (fun _ h9 => h9) rfl dX7_fault_1 ?_
  exact hs_iret hx hb hr hlocks hK hP hD hS () [0] rfl (hs_upnd rfl) dX7_fault_4 (trivial)

set_option maxHeartbeats 4000000 in
set_option maxRecDepth 100000 in
theorem gp_torn (l : Launch) (D : va_G) (k : Nat → ClassId) (sz : Nat) (h : Nat) (h_now : Nat) (h_trial : Nat) (h_images : Nat) (h_imageThere : Nat) (h_teller : Nat) (h_ranks : Nat) (h_court : Nat) (h_sheets : Nat) (h_lf : Int32) (h_lt : Int32)  : MI l yX7_torn wsX7_torn ({ frames := 0, cells := 0, slots := 0, locals := 0 }) D k [.ref h] [oq6 h h_now h_trial h_images h_imageThere h_teller h_ranks h_court h_sheets h_lf h_lt] sz (fun (r : Int32) (u : Unit) => True) (fun (u : Unit) => [oq6 h h_now h_trial h_images h_imageThere h_teller h_ranks h_court h_sheets h_lf h_lt]) := by
  refine Met.ofW (cc := cX7_torn) (maxL := 1) (ret := (some .int)) hpn_X7 rfl ?_
  intro p e s m args below meth c s₁ B hml hv
  obtain ⟨rfl, hsz, hP, hK, hD0, hN⟩ := hv
  have hx := B.exec
  have hb := B.bytes
  have hr := B.returns
  have hlocks := B.notSynchronized
  have hts := atoms_spec (ws := wsX7_torn) B.pre
  have hown := findClass_of_methodNamed B.named
  have hown : s.vm.findClass RX7 = some m.cls := hown
  have hiX7 : ∀ w ∈ u_ws RX7 TX7 10, w ∈ wsX7_torn := fun w9 hw9 => List.mem_cons_of_mem _ (igX7 w9 hw9)
  have fl283 := hts (.fieldLink RX7 283 "HalfScales" "latestTorn" "I") (List.mem_cons_of_mem _ (hs_inG 1 224 rfl rfl))
  subst hsz
  have hD := hD0.self (sz := s.heap.size)
  generalize hAe : va_A [oq6 h h_now h_trial h_images h_imageThere h_teller h_ranks h_court h_sheets h_lf h_lt] s.heap.size = A at hD ⊢
  have hA : ∀ q : Nat, s.heap.size ≤ q → A q := fun q h => by rw [← hAe]; exact Or.inr h
  have hS : va_S A s.heap s.heap [] := va_S.rf
  have hl := lv_entry ([.ref h]) (n := 1) (Nat.le_of_ble_eq_true rfl)
  rw [lg_entry_eq]
  generalize (lg_sl ([.ref h]) ++ List.replicate (1 - (lg_sl ([.ref h])).length) Slot.unset).toArray = ls at hl ⊢
  have hl : lv_has ls 1 [(0, .ref h)] := hl
  have hP : va_P D vwCl [oq6 h h_now h_trial h_images h_imageThere h_teller h_ranks h_court h_sheets h_lf h_lt] s.heap := hP
  refine lv_aload_n hx hb dX7_torn_0 rfl (lv_at hl 0 rfl) ?_
  refine va_get (D := D) (ci := 6) (v := .int h_lt) (C := RX7) (T := TX7) (N := 10) hx hb hts hiX7 hown hK hP 0 rfl rfl 9 (Nat.le_of_ble_eq_true rfl) fl283 (fun _ h9 => h9) rfl dX7_torn_1 ?_
  exact hs_iret hx hb hr hlocks hK hP hD hS () [0] rfl (hs_upnd rfl) dX7_torn_4 (trivial)

set_option maxHeartbeats 4000000 in
set_option maxRecDepth 100000 in
theorem gp_cell (l : Launch) (D : va_G) (k : Nat → ClassId) (sz : Nat) (h : Nat) (h_now : Nat) (h_trial : Nat) (h_images : Nat) (h_imageThere : Nat) (h_teller : Nat) (h_ranks : Nat) (h_court : Nat) (h_sheets : Nat) (h_lf : Int32) (h_lt : Int32) (n_a : Nat → Nat) (n_N : Nat → Nat) (n_J : Nat → Int32) (n_F : Nat → Nat → Int32) (i : Int32) (hN0 : thN n_N) (hF : thF n_N n_F) (h2 : 2 ≤ n_N 0) : MI l yX7_cell wsX7_cell ({ frames := 2, cells := 0, slots := 0, locals := 43 }) D k [.ref h, .int i] [oq6 h h_now h_trial h_images h_imageThere h_teller h_ranks h_court h_sheets h_lf h_lt, oqT h_now n_a n_N n_J, oqF0 k n_a n_F, oqF1 k n_a n_F, oqF2 k n_a n_F, oqF3 k n_a n_F, oqF4 k n_a n_F, oqF5 k n_a n_F, oqF6 k n_a n_F] sz (fun (r : Int32) (u : Unit) => True) (fun (u : Unit) => [oq6 h h_now h_trial h_images h_imageThere h_teller h_ranks h_court h_sheets h_lf h_lt, oqT h_now n_a n_N n_J, oqF0 k n_a n_F, oqF1 k n_a n_F, oqF2 k n_a n_F, oqF3 k n_a n_F, oqF4 k n_a n_F, oqF5 k n_a n_F, oqF6 k n_a n_F]) := by
  refine Met.ofW (cc := cX7_cell) (maxL := 2) (ret := (some .int)) hpn_X7 rfl ?_
  intro p e s m args below meth c s₁ B hml hv
  obtain ⟨rfl, hsz, hP, hK, hD0, hN⟩ := hv
  have hx := B.exec
  have hb := B.bytes
  have hr := B.returns
  have hlocks := B.notSynchronized
  have hts := atoms_spec (ws := wsX7_cell) B.pre
  have hown := findClass_of_methodNamed B.named
  have hown : s.vm.findClass RX7 = some m.cls := hown
  have hiX6 : ∀ w ∈ u_ws RX6 TX6 15, w ∈ wsX7_cell := fun w9 hw9 => List.mem_cons_of_mem _ (igX6 w9 hw9)
  have hiX7 : ∀ w ∈ u_ws RX7 TX7 10, w ∈ wsX7_cell := fun w9 hw9 => List.mem_cons_of_mem _ (igX7 w9 hw9)
  have fl10 := hts (.fieldLink RX7 10 "HalfScales" "now" "LHalfScales$Thing;") (List.mem_cons_of_mem _ (hs_inG 1 215 rfl rfl))
  have fl122 := hts (.fieldLink RX7 122 "HalfScales$Thing" "weights" "[I") (List.mem_cons_of_mem _ (hs_inG 1 36 rfl rfl))
  have hNn := hN0
  obtain ⟨I0, I1, ⟨I2, I2b⟩, I3, I4⟩ := hN0
  subst hsz
  have hD := hD0.self (sz := s.heap.size)
  generalize hAe : va_A [oq6 h h_now h_trial h_images h_imageThere h_teller h_ranks h_court h_sheets h_lf h_lt, oqT h_now n_a n_N n_J, oqF0 k n_a n_F, oqF1 k n_a n_F, oqF2 k n_a n_F, oqF3 k n_a n_F, oqF4 k n_a n_F, oqF5 k n_a n_F, oqF6 k n_a n_F] s.heap.size = A at hD ⊢
  have hA : ∀ q : Nat, s.heap.size ≤ q → A q := fun q h => by rw [← hAe]; exact Or.inr h
  have hS : va_S A s.heap s.heap [] := va_S.rf
  have hl := lv_entry ([.ref h, .int i]) (n := 2) (Nat.le_of_ble_eq_true rfl)
  rw [lg_entry_eq]
  generalize (lg_sl ([.ref h, .int i]) ++ List.replicate (2 - (lg_sl ([.ref h, .int i])).length) Slot.unset).toArray = ls at hl ⊢
  have hl : lv_has ls 2 [(0, .ref h), (1, .int i)] := hl
  have hP : va_P D vwCl [oq6 h h_now h_trial h_images h_imageThere h_teller h_ranks h_court h_sheets h_lf h_lt, oqT h_now n_a n_N n_J, oqF0 k n_a n_F, oqF1 k n_a n_F, oqF2 k n_a n_F, oqF3 k n_a n_F, oqF4 k n_a n_F, oqF5 k n_a n_F, oqF6 k n_a n_F] s.heap := hP
  refine lv_aload_n hx hb dX7_cell_0 rfl (lv_at hl 0 rfl) ?_
  refine va_get (D := D) (ci := 6) (v := .ref h_now) (C := RX7) (T := TX7) (N := 10) hx hb hts hiX7 hown hK hP 0 rfl rfl 0 (Nat.le_of_ble_eq_true rfl) fl10 (fun _ h9 => h9) rfl dX7_cell_1 ?_
  refine lv_iload_n hx hb dX7_cell_4 rfl (lv_at hl 1 rfl) ?_
  refine hs_ciM (va_runV (As := [.int i]) (rest := []) ⟨hx, hb, hml, hown, hts⟩ (g_isCell l D k _ h_now n_a n_N n_J i (by first | assumption | exact ⟨by first | omega | (dsimp; omega), by first | omega | (dsimp; omega), ⟨by first | omega | (dsimp; omega), by first | omega | (dsimp; omega)⟩, by first | omega | (dsimp; omega), by first | omega | (dsimp; omega)⟩)) (cwV 1 hts gX7_cell_X6_isCell rfl rfl rfl ⟨rfl, hq_X6_isCell⟩ ⟨Nat.le_of_ble_eq_true rfl, Nat.le_of_ble_eq_true rfl⟩) (hs_preV hK hN (hs_subP (w := [_]) hP [1] rfl) (hD.sub (ws' := [_]) [1] (hs_upnd rfl) rfl) (ci := 5) (q0 := 0) rfl rfl) rfl rfl hl.1 rfl (lv_room (Nat.le_of_ble_eq_true rfl)) dX7_cell_5 ⟨Nat.le_of_ble_eq_true rfl, Nat.le_of_ble_eq_true rfl⟩) hP hD hS hA [true, false, true, true, true, true, true, true, true] [_, _, _, _, _, _, _, _] [_] rfl [0] rfl [0] (fun u_3 => [_]) (fun _ => rfl) (hs_upnd rfl) [true, false, true, true, true, true, true, true, true] (fun u_3 => [_, _, _, _, _, _, _, _, _]) (fun _ => rfl) (fun r_1 u_3 H locs hw_2 hP hD hS => ?_)
  refine hs_topi (hsb (hslt i (n_N 0))) hw_2 ?_
  refine lv_if_eq (tgt := 23) hx hb dX7_cell_8 rfl (fun c_4 => ?_) (fun c_4 => ?_)
  · refine lv_iconst (v := (-1)) hx hb dX7_cell_23 hki_m1 ?_
    exact hs_iret hx hb hr hlocks hK hP hD hS () [0, 1, 2, 3, 4, 5, 6, 7, 8] rfl (hs_upnd rfl) dX7_cell_24 (trivial)
  · obtain ⟨j_5, hj_5, rfl⟩ := hslt_ex (hs_nb c_4)
    refine lv_aload_n hx hb dX7_cell_11 rfl (lv_at hl 0 rfl) ?_
    refine va_get (D := D) (ci := 6) (v := .ref h_now) (C := RX7) (T := TX7) (N := 10) hx hb hts hiX7 hown hK hP 0 rfl rfl 0 (Nat.le_of_ble_eq_true rfl) fl10 (fun _ h9 => h9) rfl dX7_cell_12 ?_
    refine va_get (D := D) (ci := 5) (v := .ref (n_a 0)) (C := RX6) (T := TX6) (N := 15) hx hb hts hiX6 hown hK hP 1 rfl rfl 0 (Nat.le_of_ble_eq_true rfl) fl122 (fun _ h9 => h9) rfl dX7_cell_15 ?_
    refine lv_iload_n hx hb dX7_cell_18 rfl (lv_at hl 1 rfl) ?_
    refine va_iald hx hb hK hP 2 0 rfl rfl (vp_in_nI (show j_5 < 8 by omega) (by decide)) dX7_cell_19 ?_
    refine lv_goto (tgt := 24) hx hb dX7_cell_20 rfl ?_
    exact hs_iret hx hb hr hlocks hK hP hD hS () [0, 1, 2, 3, 4, 5, 6, 7, 8] rfl (hs_upnd rfl) dX7_cell_24 (trivial)

set_option maxHeartbeats 4000000 in
set_option maxRecDepth 100000 in
theorem gp_person (l : Launch) (D : va_G) (k : Nat → ClassId) (sz : Nat) (h : Nat) (h_now : Nat) (h_trial : Nat) (h_images : Nat) (h_imageThere : Nat) (h_teller : Nat) (h_ranks : Nat) (h_court : Nat) (h_sheets : Nat) (h_lf : Int32) (h_lt : Int32) (n_a : Nat → Nat) (n_N : Nat → Nat) (n_J : Nat → Int32) (n_F : Nat → Nat → Int32) (i : Int32) (hN0 : thN n_N) (hF : thF n_N n_F) (h2 : 2 ≤ n_N 0) : MI l yX7_person wsX7_person ({ frames := 2, cells := 0, slots := 0, locals := 43 }) D k [.ref h, .int i] [oq6 h h_now h_trial h_images h_imageThere h_teller h_ranks h_court h_sheets h_lf h_lt, oqT h_now n_a n_N n_J, oqF0 k n_a n_F, oqF1 k n_a n_F, oqF2 k n_a n_F, oqF3 k n_a n_F, oqF4 k n_a n_F, oqF5 k n_a n_F, oqF6 k n_a n_F] sz (fun (r : Int32) (u : Unit) => True) (fun (u : Unit) => [oq6 h h_now h_trial h_images h_imageThere h_teller h_ranks h_court h_sheets h_lf h_lt, oqT h_now n_a n_N n_J, oqF0 k n_a n_F, oqF1 k n_a n_F, oqF2 k n_a n_F, oqF3 k n_a n_F, oqF4 k n_a n_F, oqF5 k n_a n_F, oqF6 k n_a n_F]) := by
  refine Met.ofW (cc := cX7_person) (maxL := 2) (ret := (some .int)) hpn_X7 rfl ?_
  intro p e s m args below meth c s₁ B hml hv
  obtain ⟨rfl, hsz, hP, hK, hD0, hN⟩ := hv
  have hx := B.exec
  have hb := B.bytes
  have hr := B.returns
  have hlocks := B.notSynchronized
  have hts := atoms_spec (ws := wsX7_person) B.pre
  have hown := findClass_of_methodNamed B.named
  have hown : s.vm.findClass RX7 = some m.cls := hown
  have hiX6 : ∀ w ∈ u_ws RX6 TX6 15, w ∈ wsX7_person := fun w9 hw9 => List.mem_cons_of_mem _ (igX6 w9 hw9)
  have hiX7 : ∀ w ∈ u_ws RX7 TX7 10, w ∈ wsX7_person := fun w9 hw9 => List.mem_cons_of_mem _ (igX7 w9 hw9)
  have fl10 := hts (.fieldLink RX7 10 "HalfScales" "now" "LHalfScales$Thing;") (List.mem_cons_of_mem _ (hs_inG 1 215 rfl rfl))
  have fl128 := hts (.fieldLink RX7 128 "HalfScales$Thing" "kindOf" "[I") (List.mem_cons_of_mem _ (hs_inG 1 39 rfl rfl))
  have hNn := hN0
  obtain ⟨I0, I1, ⟨I2, I2b⟩, I3, I4⟩ := hN0
  subst hsz
  have hD := hD0.self (sz := s.heap.size)
  generalize hAe : va_A [oq6 h h_now h_trial h_images h_imageThere h_teller h_ranks h_court h_sheets h_lf h_lt, oqT h_now n_a n_N n_J, oqF0 k n_a n_F, oqF1 k n_a n_F, oqF2 k n_a n_F, oqF3 k n_a n_F, oqF4 k n_a n_F, oqF5 k n_a n_F, oqF6 k n_a n_F] s.heap.size = A at hD ⊢
  have hA : ∀ q : Nat, s.heap.size ≤ q → A q := fun q h => by rw [← hAe]; exact Or.inr h
  have hS : va_S A s.heap s.heap [] := va_S.rf
  have hl := lv_entry ([.ref h, .int i]) (n := 2) (Nat.le_of_ble_eq_true rfl)
  rw [lg_entry_eq]
  generalize (lg_sl ([.ref h, .int i]) ++ List.replicate (2 - (lg_sl ([.ref h, .int i])).length) Slot.unset).toArray = ls at hl ⊢
  have hl : lv_has ls 2 [(0, .ref h), (1, .int i)] := hl
  have hP : va_P D vwCl [oq6 h h_now h_trial h_images h_imageThere h_teller h_ranks h_court h_sheets h_lf h_lt, oqT h_now n_a n_N n_J, oqF0 k n_a n_F, oqF1 k n_a n_F, oqF2 k n_a n_F, oqF3 k n_a n_F, oqF4 k n_a n_F, oqF5 k n_a n_F, oqF6 k n_a n_F] s.heap := hP
  refine lv_aload_n hx hb dX7_person_0 rfl (lv_at hl 0 rfl) ?_
  refine va_get (D := D) (ci := 6) (v := .ref h_now) (C := RX7) (T := TX7) (N := 10) hx hb hts hiX7 hown hK hP 0 rfl rfl 0 (Nat.le_of_ble_eq_true rfl) fl10 (fun _ h9 => h9) rfl dX7_person_1 ?_
  refine lv_iload_n hx hb dX7_person_4 rfl (lv_at hl 1 rfl) ?_
  refine hs_ciM (va_runV (As := [.int i]) (rest := []) ⟨hx, hb, hml, hown, hts⟩ (g_isPerson l D k _ h_now n_a n_N n_J i (by first | assumption | exact ⟨by first | omega | (dsimp; omega), by first | omega | (dsimp; omega), ⟨by first | omega | (dsimp; omega), by first | omega | (dsimp; omega)⟩, by first | omega | (dsimp; omega), by first | omega | (dsimp; omega)⟩)) (cwV 1 hts gX7_person_X6_isPerson rfl rfl rfl ⟨rfl, hq_X6_isPerson⟩ ⟨Nat.le_of_ble_eq_true rfl, Nat.le_of_ble_eq_true rfl⟩) (hs_preV hK hN (hs_subP (w := [_]) hP [1] rfl) (hD.sub (ws' := [_]) [1] (hs_upnd rfl) rfl) (ci := 5) (q0 := 0) rfl rfl) rfl rfl hl.1 rfl (lv_room (Nat.le_of_ble_eq_true rfl)) dX7_person_5 ⟨Nat.le_of_ble_eq_true rfl, Nat.le_of_ble_eq_true rfl⟩) hP hD hS hA [true, false, true, true, true, true, true, true, true] [_, _, _, _, _, _, _, _] [_] rfl [0] rfl [0] (fun u_3 => [_]) (fun _ => rfl) (hs_upnd rfl) [true, false, true, true, true, true, true, true, true] (fun u_3 => [_, _, _, _, _, _, _, _, _]) (fun _ => rfl) (fun r_1 u_3 H locs hw_2 hP hD hS => ?_)
  refine hs_topi (hsb (hslt i (n_N 1))) hw_2 ?_
  refine lv_if_eq (tgt := 23) hx hb dX7_person_8 rfl (fun c_4 => ?_) (fun c_4 => ?_)
  · refine lv_iconst (v := (-1)) hx hb dX7_person_23 hki_m1 ?_
    exact hs_iret hx hb hr hlocks hK hP hD hS () [0, 1, 2, 3, 4, 5, 6, 7, 8] rfl (hs_upnd rfl) dX7_person_24 (trivial)
  · obtain ⟨j_5, hj_5, rfl⟩ := hslt_ex (hs_nb c_4)
    refine lv_aload_n hx hb dX7_person_11 rfl (lv_at hl 0 rfl) ?_
    refine va_get (D := D) (ci := 6) (v := .ref h_now) (C := RX7) (T := TX7) (N := 10) hx hb hts hiX7 hown hK hP 0 rfl rfl 0 (Nat.le_of_ble_eq_true rfl) fl10 (fun _ h9 => h9) rfl dX7_person_12 ?_
    refine va_get (D := D) (ci := 5) (v := .ref (n_a 1)) (C := RX6) (T := TX6) (N := 15) hx hb hts hiX6 hown hK hP 1 rfl rfl 1 (Nat.le_of_ble_eq_true rfl) fl128 (fun _ h9 => h9) rfl dX7_person_15 ?_
    refine lv_iload_n hx hb dX7_person_18 rfl (lv_at hl 1 rfl) ?_
    refine va_iald hx hb hK hP 3 0 rfl rfl (vp_in_nI (show j_5 < 4 by omega) (by decide)) dX7_person_19 ?_
    refine lv_goto (tgt := 24) hx hb dX7_person_20 rfl ?_
    exact hs_iret hx hb hr hlocks hK hP hD hS () [0, 1, 2, 3, 4, 5, 6, 7, 8] rfl (hs_upnd rfl) dX7_person_24 (trivial)

set_option maxHeartbeats 4000000 in
set_option maxRecDepth 100000 in
theorem gp_pair (l : Launch) (D : va_G) (k : Nat → ClassId) (sz : Nat) (h : Nat) (h_now : Nat) (h_trial : Nat) (h_images : Nat) (h_imageThere : Nat) (h_teller : Nat) (h_ranks : Nat) (h_court : Nat) (h_sheets : Nat) (h_lf : Int32) (h_lt : Int32) (n_a : Nat → Nat) (n_N : Nat → Nat) (n_J : Nat → Int32) (n_F : Nat → Nat → Int32) (i : Int32) (hN0 : thN n_N) (hF : thF n_N n_F) (h2 : 2 ≤ n_N 0) : MI l yX7_pair wsX7_pair ({ frames := 1, cells := 0, slots := 0, locals := 22 }) D k [.ref h, .int i] [oq6 h h_now h_trial h_images h_imageThere h_teller h_ranks h_court h_sheets h_lf h_lt, oqT h_now n_a n_N n_J, oqF0 k n_a n_F, oqF1 k n_a n_F, oqF2 k n_a n_F, oqF3 k n_a n_F, oqF4 k n_a n_F, oqF5 k n_a n_F, oqF6 k n_a n_F] sz (fun (r : Int32) (u : Unit) => True) (fun (u : Unit) => [oq6 h h_now h_trial h_images h_imageThere h_teller h_ranks h_court h_sheets h_lf h_lt, oqT h_now n_a n_N n_J, oqF0 k n_a n_F, oqF1 k n_a n_F, oqF2 k n_a n_F, oqF3 k n_a n_F, oqF4 k n_a n_F, oqF5 k n_a n_F, oqF6 k n_a n_F]) := by
  refine Met.ofW (cc := cX7_pair) (maxL := 2) (ret := (some .int)) hpn_X7 rfl ?_
  intro p e s m args below meth c s₁ B hml hv
  obtain ⟨rfl, hsz, hP, hK, hD0, hN⟩ := hv
  have hx := B.exec
  have hb := B.bytes
  have hr := B.returns
  have hlocks := B.notSynchronized
  have hts := atoms_spec (ws := wsX7_pair) B.pre
  have hown := findClass_of_methodNamed B.named
  have hown : s.vm.findClass RX7 = some m.cls := hown
  have hiX6 : ∀ w ∈ u_ws RX6 TX6 15, w ∈ wsX7_pair := fun w9 hw9 => List.mem_cons_of_mem _ (igX6 w9 hw9)
  have hiX7 : ∀ w ∈ u_ws RX7 TX7 10, w ∈ wsX7_pair := fun w9 hw9 => List.mem_cons_of_mem _ (igX7 w9 hw9)
  have fl10 := hts (.fieldLink RX7 10 "HalfScales" "now" "LHalfScales$Thing;") (List.mem_cons_of_mem _ (hs_inG 1 215 rfl rfl))
  have fl111 := hts (.fieldLink RX7 111 "HalfScales$Thing" "pairCount" "I") (List.mem_cons_of_mem _ (hs_inG 1 75 rfl rfl))
  have fl131 := hts (.fieldLink RX7 131 "HalfScales$Thing" "light" "[I") (List.mem_cons_of_mem _ (hs_inG 1 42 rfl rfl))
  have fl134 := hts (.fieldLink RX7 134 "HalfScales$Thing" "heavy" "[I") (List.mem_cons_of_mem _ (hs_inG 1 46 rfl rfl))
  have hNn := hN0
  obtain ⟨I0, I1, ⟨I2, I2b⟩, I3, I4⟩ := hN0
  subst hsz
  have hD := hD0.self (sz := s.heap.size)
  generalize hAe : va_A [oq6 h h_now h_trial h_images h_imageThere h_teller h_ranks h_court h_sheets h_lf h_lt, oqT h_now n_a n_N n_J, oqF0 k n_a n_F, oqF1 k n_a n_F, oqF2 k n_a n_F, oqF3 k n_a n_F, oqF4 k n_a n_F, oqF5 k n_a n_F, oqF6 k n_a n_F] s.heap.size = A at hD ⊢
  have hA : ∀ q : Nat, s.heap.size ≤ q → A q := fun q h => by rw [← hAe]; exact Or.inr h
  have hS : va_S A s.heap s.heap [] := va_S.rf
  have hl := lv_entry ([.ref h, .int i]) (n := 2) (Nat.le_of_ble_eq_true rfl)
  rw [lg_entry_eq]
  generalize (lg_sl ([.ref h, .int i]) ++ List.replicate (2 - (lg_sl ([.ref h, .int i])).length) Slot.unset).toArray = ls at hl ⊢
  have hl : lv_has ls 2 [(0, .ref h), (1, .int i)] := hl
  have hP : va_P D vwCl [oq6 h h_now h_trial h_images h_imageThere h_teller h_ranks h_court h_sheets h_lf h_lt, oqT h_now n_a n_N n_J, oqF0 k n_a n_F, oqF1 k n_a n_F, oqF2 k n_a n_F, oqF3 k n_a n_F, oqF4 k n_a n_F, oqF5 k n_a n_F, oqF6 k n_a n_F] s.heap := hP
  refine lv_iload_n hx hb dX7_pair_0 rfl (lv_at hl 1 rfl) ?_
  refine lv_iconst (v := 0) hx hb dX7_pair_1 hki_0 ?_
  refine lv_aload_n hx hb dX7_pair_2 rfl (lv_at hl 0 rfl) ?_
  refine va_get (D := D) (ci := 6) (v := .ref h_now) (C := RX7) (T := TX7) (N := 10) hx hb hts hiX7 hown hK hP 0 rfl rfl 0 (Nat.le_of_ble_eq_true rfl) fl10 (fun _ h9 => h9) rfl dX7_pair_3 ?_
  refine va_get (D := D) (ci := 5) (v := .int (nI (n_N 3))) (C := RX6) (T := TX6) (N := 15) hx hb hts hiX6 hown hK hP 1 rfl rfl 13 (Nat.le_of_ble_eq_true rfl) fl111 (fun _ h9 => h9) rfl dX7_pair_6 ?_
  refine lv_iconst (v := 1) hx hb dX7_pair_9 hki_1 ?_
  refine lv_isub hx hb dX7_pair_10 ?_
  refine hs_pi (va_runS (As := [.int i, .int 0, .int ((nI (n_N 3)) - 1)]) (rest := []) ⟨hx, hb, hml, hown, hts⟩ (g_within l D k _ i 0 ((nI (n_N 3)) - 1)) (va_cwS 3 hts gX7_pair_X7_within rfl rfl rfl hq_X7_within ⟨Nat.le_of_ble_eq_true rfl, Nat.le_of_ble_eq_true rfl⟩) (hs_preS hK hN (hs_subP (w := []) hP [] rfl) (hD.sub (ws' := []) [] rfl rfl)) rfl rfl hl.1 rfl (lv_room (Nat.le_of_ble_eq_true rfl)) dX7_pair_11 ⟨Nat.le_of_ble_eq_true rfl, Nat.le_of_ble_eq_true rfl⟩) hP hD hS hA (fun r_1 u_3 H locs hw_2 hP hS => ?_)
  refine hs_topi (hsb (hsin i 0 ((nI (n_N 3)) - 1))) hw_2 ?_
  refine lv_if_ne (tgt := 19) hx hb dX7_pair_14 rfl (fun c_4 => ?_) (fun c_4 => ?_)
  · refine lv_bipush (v := 10) hx hb dX7_pair_19 hkb_10 ?_
    refine lv_aload_n hx hb dX7_pair_21 rfl (lv_at hl 0 rfl) ?_
    refine va_get (D := D) (ci := 6) (v := .ref h_now) (C := RX7) (T := TX7) (N := 10) hx hb hts hiX7 hown hK hP 0 rfl rfl 0 (Nat.le_of_ble_eq_true rfl) fl10 (fun _ h9 => h9) rfl dX7_pair_22 ?_
    refine va_get (D := D) (ci := 5) (v := .ref (n_a 2)) (C := RX6) (T := TX6) (N := 15) hx hb hts hiX6 hown hK hP 1 rfl rfl 2 (Nat.le_of_ble_eq_true rfl) fl131 (fun _ h9 => h9) rfl dX7_pair_25 ?_
    refine lv_iload_n hx hb dX7_pair_28 rfl (lv_at hl 1 rfl) ?_
    refine va_iald hx hb hK hP 4 0 rfl rfl (hs_in8 (by omega) (hs_nb c_4)) dX7_pair_29 ?_
    refine lv_imul hx hb dX7_pair_30 ?_
    refine lv_aload_n hx hb dX7_pair_31 rfl (lv_at hl 0 rfl) ?_
    refine va_get (D := D) (ci := 6) (v := .ref h_now) (C := RX7) (T := TX7) (N := 10) hx hb hts hiX7 hown hK hP 0 rfl rfl 0 (Nat.le_of_ble_eq_true rfl) fl10 (fun _ h9 => h9) rfl dX7_pair_32 ?_
    refine va_get (D := D) (ci := 5) (v := .ref (n_a 3)) (C := RX6) (T := TX6) (N := 15) hx hb hts hiX6 hown hK hP 1 rfl rfl 3 (Nat.le_of_ble_eq_true rfl) fl134 (fun _ h9 => h9) rfl dX7_pair_35 ?_
    refine lv_iload_n hx hb dX7_pair_38 rfl (lv_at hl 1 rfl) ?_
    refine va_iald hx hb hK hP 5 0 rfl rfl (hs_in8 (by omega) (hs_nb c_4)) dX7_pair_39 ?_
    refine lv_iadd hx hb dX7_pair_40 ?_
    exact hs_iret hx hb hr hlocks hK hP hD hS () [0, 1, 2, 3, 4, 5, 6, 7, 8] rfl (hs_upnd rfl) dX7_pair_41 (trivial)
  · refine lv_iconst (v := (-1)) hx hb dX7_pair_17 hki_m1 ?_
    exact hs_iret hx hb hr hlocks hK hP hD hS () [0, 1, 2, 3, 4, 5, 6, 7, 8] rfl (hs_upnd rfl) dX7_pair_18 (trivial)

set_option maxHeartbeats 4000000 in
set_option maxRecDepth 100000 in
theorem gp_worth (l : Launch) (D : va_G) (k : Nat → ClassId) (sz : Nat) (h : Nat) (h_now : Nat) (h_trial : Nat) (h_images : Nat) (h_imageThere : Nat) (h_teller : Nat) (h_ranks : Nat) (h_court : Nat) (h_sheets : Nat) (h_lf : Int32) (h_lt : Int32) (n_a : Nat → Nat) (n_N : Nat → Nat) (n_J : Nat → Int32) (n_F : Nat → Nat → Int32) (i : Int32) (sm : Int32) (hN0 : thN n_N) (hF : thF n_N n_F) (h2 : 2 ≤ n_N 0) : MI l yX7_worth wsX7_worth ({ frames := 2, cells := 0, slots := 0, locals := 49 }) D k [.ref h, .int i, .int sm] [oq6 h h_now h_trial h_images h_imageThere h_teller h_ranks h_court h_sheets h_lf h_lt, oqT h_now n_a n_N n_J, oqF0 k n_a n_F, oqF1 k n_a n_F, oqF2 k n_a n_F, oqF3 k n_a n_F, oqF4 k n_a n_F, oqF5 k n_a n_F, oqF6 k n_a n_F] sz (fun (r : Int32) (u : Unit) => True) (fun (u : Unit) => [oq6 h h_now h_trial h_images h_imageThere h_teller h_ranks h_court h_sheets h_lf h_lt, oqT h_now n_a n_N n_J, oqF0 k n_a n_F, oqF1 k n_a n_F, oqF2 k n_a n_F, oqF3 k n_a n_F, oqF4 k n_a n_F, oqF5 k n_a n_F, oqF6 k n_a n_F]) := by
  refine Met.ofW (cc := cX7_worth) (maxL := 3) (ret := (some .int)) hpn_X7 rfl ?_
  intro p e s m args below meth c s₁ B hml hv
  obtain ⟨rfl, hsz, hP, hK, hD0, hN⟩ := hv
  have hx := B.exec
  have hb := B.bytes
  have hr := B.returns
  have hlocks := B.notSynchronized
  have hts := atoms_spec (ws := wsX7_worth) B.pre
  have hown := findClass_of_methodNamed B.named
  have hown : s.vm.findClass RX7 = some m.cls := hown
  have hiX7 : ∀ w ∈ u_ws RX7 TX7 10, w ∈ wsX7_worth := fun w9 hw9 => List.mem_cons_of_mem _ (igX7 w9 hw9)
  have fl10 := hts (.fieldLink RX7 10 "HalfScales" "now" "LHalfScales$Thing;") (List.mem_cons_of_mem _ (hs_inG 1 215 rfl rfl))
  have hNn := hN0
  obtain ⟨I0, I1, ⟨I2, I2b⟩, I3, I4⟩ := hN0
  subst hsz
  have hD := hD0.self (sz := s.heap.size)
  generalize hAe : va_A [oq6 h h_now h_trial h_images h_imageThere h_teller h_ranks h_court h_sheets h_lf h_lt, oqT h_now n_a n_N n_J, oqF0 k n_a n_F, oqF1 k n_a n_F, oqF2 k n_a n_F, oqF3 k n_a n_F, oqF4 k n_a n_F, oqF5 k n_a n_F, oqF6 k n_a n_F] s.heap.size = A at hD ⊢
  have hA : ∀ q : Nat, s.heap.size ≤ q → A q := fun q h => by rw [← hAe]; exact Or.inr h
  have hS : va_S A s.heap s.heap [] := va_S.rf
  have hl := lv_entry ([.ref h, .int i, .int sm]) (n := 3) (Nat.le_of_ble_eq_true rfl)
  rw [lg_entry_eq]
  generalize (lg_sl ([.ref h, .int i, .int sm]) ++ List.replicate (3 - (lg_sl ([.ref h, .int i, .int sm])).length) Slot.unset).toArray = ls at hl ⊢
  have hl : lv_has ls 3 [(0, .ref h), (1, .int i), (2, .int sm)] := hl
  have hP : va_P D vwCl [oq6 h h_now h_trial h_images h_imageThere h_teller h_ranks h_court h_sheets h_lf h_lt, oqT h_now n_a n_N n_J, oqF0 k n_a n_F, oqF1 k n_a n_F, oqF2 k n_a n_F, oqF3 k n_a n_F, oqF4 k n_a n_F, oqF5 k n_a n_F, oqF6 k n_a n_F] s.heap := hP
  refine lv_aload_n hx hb dX7_worth_0 rfl (lv_at hl 0 rfl) ?_
  refine va_get (D := D) (ci := 6) (v := .ref h_now) (C := RX7) (T := TX7) (N := 10) hx hb hts hiX7 hown hK hP 0 rfl rfl 0 (Nat.le_of_ble_eq_true rfl) fl10 (fun _ h9 => h9) rfl dX7_worth_1 ?_
  refine lv_iload_n hx hb dX7_worth_4 rfl (lv_at hl 1 rfl) ?_
  refine hs_ciM (va_runV (As := [.int i]) (rest := []) ⟨hx, hb, hml, hown, hts⟩ (g_isPerson l D k _ h_now n_a n_N n_J i (by first | assumption | exact ⟨by first | omega | (dsimp; omega), by first | omega | (dsimp; omega), ⟨by first | omega | (dsimp; omega), by first | omega | (dsimp; omega)⟩, by first | omega | (dsimp; omega), by first | omega | (dsimp; omega)⟩)) (cwV 1 hts gX7_worth_X6_isPerson rfl rfl rfl ⟨rfl, hq_X6_isPerson⟩ ⟨Nat.le_of_ble_eq_true rfl, Nat.le_of_ble_eq_true rfl⟩) (hs_preV hK hN (hs_subP (w := [_]) hP [1] rfl) (hD.sub (ws' := [_]) [1] (hs_upnd rfl) rfl) (ci := 5) (q0 := 0) rfl rfl) rfl rfl hl.1 rfl (lv_room (Nat.le_of_ble_eq_true rfl)) dX7_worth_5 ⟨Nat.le_of_ble_eq_true rfl, Nat.le_of_ble_eq_true rfl⟩) hP hD hS hA [true, false, true, true, true, true, true, true, true] [_, _, _, _, _, _, _, _] [_] rfl [0] rfl [0] (fun u_3 => [_]) (fun _ => rfl) (hs_upnd rfl) [true, false, true, true, true, true, true, true, true] (fun u_3 => [_, _, _, _, _, _, _, _, _]) (fun _ => rfl) (fun r_1 u_3 H locs hw_2 hP hD hS => ?_)
  refine hs_topi (hsb (hslt i (n_N 1))) hw_2 ?_
  refine lv_if_eq (tgt := 26) hx hb dX7_worth_8 rfl (fun c_4 => ?_) (fun c_4 => ?_)
  · refine lv_iconst (v := (-1)) hx hb dX7_worth_26 hki_m1 ?_
    exact hs_iret hx hb hr hlocks hK hP hD hS () [0, 1, 2, 3, 4, 5, 6, 7, 8] rfl (hs_upnd rfl) dX7_worth_27 (trivial)
  · obtain ⟨j_5, hj_5, rfl⟩ := hslt_ex (hs_nb c_4)
    refine lv_iload_n hx hb dX7_worth_11 rfl (lv_at hl 2 rfl) ?_
    refine lv_iconst (v := 0) hx hb dX7_worth_12 hki_0 ?_
    refine lv_aload_n hx hb dX7_worth_13 rfl (lv_at hl 0 rfl) ?_
    refine va_get (D := D) (ci := 6) (v := .ref h_now) (C := RX7) (T := TX7) (N := 10) hx hb hts hiX7 hown hK hP 0 rfl rfl 0 (Nat.le_of_ble_eq_true rfl) fl10 (fun _ h9 => h9) rfl dX7_worth_14 ?_
    refine hs_ciM (va_runV (As := []) (rest := [.int 0, .int sm]) ⟨hx, hb, hml, hown, hts⟩ (g_allCells l D k _ h_now n_a n_N n_J (by first | assumption | exact ⟨by first | omega | (dsimp; omega), by first | omega | (dsimp; omega), ⟨by first | omega | (dsimp; omega), by first | omega | (dsimp; omega)⟩, by first | omega | (dsimp; omega), by first | omega | (dsimp; omega)⟩)) (cwV 0 hts gX7_worth_X6_allCells rfl rfl rfl ⟨rfl, hq_X6_allCells⟩ ⟨Nat.le_of_ble_eq_true rfl, Nat.le_of_ble_eq_true rfl⟩) (hs_preV hK hN (hs_subP (w := [_]) hP [1] rfl) (hD.sub (ws' := [_]) [1] (hs_upnd rfl) rfl) (ci := 5) (q0 := 0) rfl rfl) rfl rfl hl.1 rfl (lv_room (Nat.le_of_ble_eq_true rfl)) dX7_worth_17 ⟨Nat.le_of_ble_eq_true rfl, Nat.le_of_ble_eq_true rfl⟩) hP hD hS hA [true, false, true, true, true, true, true, true, true] [_, _, _, _, _, _, _, _] [_] rfl [0] rfl [0] (fun u_8 => [_]) (fun _ => rfl) (hs_upnd rfl) [true, false, true, true, true, true, true, true, true] (fun u_8 => [_, _, _, _, _, _, _, _, _]) (fun _ => rfl) (fun r_6 u_8 H locs hw_7 hP hD hS => ?_)
    refine hs_topi (nI (2 ^ (n_N 0) - 1)) hw_7 ?_
    refine hs_pi (va_runS (As := [.int sm, .int 0, .int (nI (2 ^ (n_N 0) - 1))]) (rest := []) ⟨hx, hb, hml, hown, hts⟩ (g_within l D k _ sm 0 (nI (2 ^ (n_N 0) - 1))) (va_cwS 3 hts gX7_worth_X7_within rfl rfl rfl hq_X7_within ⟨Nat.le_of_ble_eq_true rfl, Nat.le_of_ble_eq_true rfl⟩) (hs_preS hK hN (hs_subP (w := []) hP [] rfl) (hD.sub (ws' := []) [] rfl rfl)) rfl rfl hl.1 rfl (lv_room (Nat.le_of_ble_eq_true rfl)) dX7_worth_20 ⟨Nat.le_of_ble_eq_true rfl, Nat.le_of_ble_eq_true rfl⟩) hP hD hS hA (fun r_9 u_11 H locs hw_10 hP hS => ?_)
    refine hs_topi (hsb (hsin sm 0 (nI (2 ^ (n_N 0) - 1)))) hw_10 ?_
    refine lv_if_ne (tgt := 28) hx hb dX7_worth_23 rfl (fun c_12 => ?_) (fun c_12 => ?_)
    · refine lv_aload_n hx hb dX7_worth_28 rfl (lv_at hl 0 rfl) ?_
      refine va_get (D := D) (ci := 6) (v := .ref h_now) (C := RX7) (T := TX7) (N := 10) hx hb hts hiX7 hown hK hP 0 rfl rfl 0 (Nat.le_of_ble_eq_true rfl) fl10 (fun _ h9 => h9) rfl dX7_worth_29 ?_
      refine lv_iload_n hx hb dX7_worth_32 rfl (lv_at hl 1 rfl) ?_
      refine lv_iload_n hx hb dX7_worth_33 rfl (lv_at hl 2 rfl) ?_
      refine hs_ciM (va_runV (As := [.int (nI j_5), .int sm]) (rest := []) ⟨hx, hb, hml, hown, hts⟩ (g_worthOf l D k _ h_now n_a n_N n_J n_F j_5 sm (by first | assumption | exact ⟨by first | omega | (dsimp; omega), by first | omega | (dsimp; omega), ⟨by first | omega | (dsimp; omega), by first | omega | (dsimp; omega)⟩, by first | omega | (dsimp; omega), by first | omega | (dsimp; omega)⟩) (by omega)) (cwV 2 hts gX7_worth_X6_worthOf rfl rfl rfl ⟨rfl, hq_X6_worthOf⟩ ⟨Nat.le_of_ble_eq_true rfl, Nat.le_of_ble_eq_true rfl⟩) (hs_preV hK hN (hs_subP (w := [_, _, _, _, _, _, _, _]) hP [1, 2, 3, 4, 5, 6, 7, 8] rfl) (hD.sub (ws' := [_, _, _, _, _, _, _, _]) [1, 2, 3, 4, 5, 6, 7, 8] (hs_upnd rfl) rfl) (ci := 5) (q0 := 0) rfl rfl) rfl rfl hl.1 rfl (lv_room (Nat.le_of_ble_eq_true rfl)) dX7_worth_34 ⟨Nat.le_of_ble_eq_true rfl, Nat.le_of_ble_eq_true rfl⟩) hP hD hS hA [true, false, false, false, false, false, false, false, false] [_] [_, _, _, _, _, _, _, _] rfl [0, 1, 2, 3, 4, 5, 6, 7] rfl [0, 1, 2, 3, 4, 5, 6, 7] (fun u_15 => [_, _, _, _, _, _, _, _]) (fun _ => rfl) (hs_upnd rfl) [true, false, false, false, false, false, false, false, false] (fun u_15 => [_, _, _, _, _, _, _, _, _]) (fun _ => rfl) (fun r_13 u_15 H locs hw_14 hP hD hS => ?_)
      exact hs_iret hx hb hr hlocks hK hP hD hS () [0, 1, 2, 3, 4, 5, 6, 7, 8] rfl (hs_upnd rfl) dX7_worth_37 (trivial)
    · refine lv_iconst (v := (-1)) hx hb dX7_worth_26 hki_m1 ?_
      exact hs_iret hx hb hr hlocks hK hP hD hS () [0, 1, 2, 3, 4, 5, 6, 7, 8] rfl (hs_upnd rfl) dX7_worth_27 (trivial)

set_option maxHeartbeats 4000000 in
set_option maxRecDepth 100000 in
theorem gp_finds (l : Launch) (D : va_G) (k : Nat → ClassId) (sz : Nat) (h : Nat) (h_now : Nat) (h_trial : Nat) (h_images : Nat) (h_imageThere : Nat) (h_teller : Nat) (h_ranks : Nat) (h_court : Nat) (h_sheets : Nat) (h_lf : Int32) (h_lt : Int32) (n_a : Nat → Nat) (n_N : Nat → Nat) (n_J : Nat → Int32) (n_F : Nat → Nat → Int32) (i : Int32) (kk : Int32) (hN0 : thN n_N) (hF : thF n_N n_F) (h2 : 2 ≤ n_N 0) : MI l yX7_finds wsX7_finds ({ frames := 3, cells := 0, slots := 0, locals := 73 }) D k [.ref h, .int i, .int kk] [oq6 h h_now h_trial h_images h_imageThere h_teller h_ranks h_court h_sheets h_lf h_lt, oqT h_now n_a n_N n_J, oqF0 k n_a n_F, oqF1 k n_a n_F, oqF2 k n_a n_F, oqF3 k n_a n_F, oqF4 k n_a n_F, oqF5 k n_a n_F, oqF6 k n_a n_F] sz (fun (r : Int32) (u : Unit) => True) (fun (u : Unit) => [oq6 h h_now h_trial h_images h_imageThere h_teller h_ranks h_court h_sheets h_lf h_lt, oqT h_now n_a n_N n_J, oqF0 k n_a n_F, oqF1 k n_a n_F, oqF2 k n_a n_F, oqF3 k n_a n_F, oqF4 k n_a n_F, oqF5 k n_a n_F, oqF6 k n_a n_F]) := by
  refine Met.ofW (cc := cX7_finds) (maxL := 3) (ret := (some .int)) hpn_X7 rfl ?_
  intro p e s m args below meth c s₁ B hml hv
  obtain ⟨rfl, hsz, hP, hK, hD0, hN⟩ := hv
  have hx := B.exec
  have hb := B.bytes
  have hr := B.returns
  have hlocks := B.notSynchronized
  have hts := atoms_spec (ws := wsX7_finds) B.pre
  have hown := findClass_of_methodNamed B.named
  have hown : s.vm.findClass RX7 = some m.cls := hown
  have hiX7 : ∀ w ∈ u_ws RX7 TX7 10, w ∈ wsX7_finds := fun w9 hw9 => List.mem_cons_of_mem _ (igX7 w9 hw9)
  have fl10 := hts (.fieldLink RX7 10 "HalfScales" "now" "LHalfScales$Thing;") (List.mem_cons_of_mem _ (hs_inG 1 215 rfl rfl))
  have hNn := hN0
  obtain ⟨I0, I1, ⟨I2, I2b⟩, I3, I4⟩ := hN0
  subst hsz
  have hD := hD0.self (sz := s.heap.size)
  generalize hAe : va_A [oq6 h h_now h_trial h_images h_imageThere h_teller h_ranks h_court h_sheets h_lf h_lt, oqT h_now n_a n_N n_J, oqF0 k n_a n_F, oqF1 k n_a n_F, oqF2 k n_a n_F, oqF3 k n_a n_F, oqF4 k n_a n_F, oqF5 k n_a n_F, oqF6 k n_a n_F] s.heap.size = A at hD ⊢
  have hA : ∀ q : Nat, s.heap.size ≤ q → A q := fun q h => by rw [← hAe]; exact Or.inr h
  have hS : va_S A s.heap s.heap [] := va_S.rf
  have hl := lv_entry ([.ref h, .int i, .int kk]) (n := 3) (Nat.le_of_ble_eq_true rfl)
  rw [lg_entry_eq]
  generalize (lg_sl ([.ref h, .int i, .int kk]) ++ List.replicate (3 - (lg_sl ([.ref h, .int i, .int kk])).length) Slot.unset).toArray = ls at hl ⊢
  have hl : lv_has ls 3 [(0, .ref h), (1, .int i), (2, .int kk)] := hl
  have hP : va_P D vwCl [oq6 h h_now h_trial h_images h_imageThere h_teller h_ranks h_court h_sheets h_lf h_lt, oqT h_now n_a n_N n_J, oqF0 k n_a n_F, oqF1 k n_a n_F, oqF2 k n_a n_F, oqF3 k n_a n_F, oqF4 k n_a n_F, oqF5 k n_a n_F, oqF6 k n_a n_F] s.heap := hP
  refine lv_aload_n hx hb dX7_finds_0 rfl (lv_at hl 0 rfl) ?_
  refine va_get (D := D) (ci := 6) (v := .ref h_now) (C := RX7) (T := TX7) (N := 10) hx hb hts hiX7 hown hK hP 0 rfl rfl 0 (Nat.le_of_ble_eq_true rfl) fl10 (fun _ h9 => h9) rfl dX7_finds_1 ?_
  refine lv_iload_n hx hb dX7_finds_4 rfl (lv_at hl 1 rfl) ?_
  refine hs_ciM (va_runV (As := [.int i]) (rest := []) ⟨hx, hb, hml, hown, hts⟩ (g_isPerson l D k _ h_now n_a n_N n_J i (by first | assumption | exact ⟨by first | omega | (dsimp; omega), by first | omega | (dsimp; omega), ⟨by first | omega | (dsimp; omega), by first | omega | (dsimp; omega)⟩, by first | omega | (dsimp; omega), by first | omega | (dsimp; omega)⟩)) (cwV 1 hts gX7_finds_X6_isPerson rfl rfl rfl ⟨rfl, hq_X6_isPerson⟩ ⟨Nat.le_of_ble_eq_true rfl, Nat.le_of_ble_eq_true rfl⟩) (hs_preV hK hN (hs_subP (w := [_]) hP [1] rfl) (hD.sub (ws' := [_]) [1] (hs_upnd rfl) rfl) (ci := 5) (q0 := 0) rfl rfl) rfl rfl hl.1 rfl (lv_room (Nat.le_of_ble_eq_true rfl)) dX7_finds_5 ⟨Nat.le_of_ble_eq_true rfl, Nat.le_of_ble_eq_true rfl⟩) hP hD hS hA [true, false, true, true, true, true, true, true, true] [_, _, _, _, _, _, _, _] [_] rfl [0] rfl [0] (fun u_3 => [_]) (fun _ => rfl) (hs_upnd rfl) [true, false, true, true, true, true, true, true, true] (fun u_3 => [_, _, _, _, _, _, _, _, _]) (fun _ => rfl) (fun r_1 u_3 H locs hw_2 hP hD hS => ?_)
  refine hs_topi (hsb (hslt i (n_N 1))) hw_2 ?_
  refine lv_if_eq (tgt := 22) hx hb dX7_finds_8 rfl (fun c_4 => ?_) (fun c_4 => ?_)
  · refine lv_iconst (v := (-1)) hx hb dX7_finds_22 hki_m1 ?_
    exact hs_iret hx hb hr hlocks hK hP hD hS () [0, 1, 2, 3, 4, 5, 6, 7, 8] rfl (hs_upnd rfl) dX7_finds_23 (trivial)
  · obtain ⟨j_5, hj_5, rfl⟩ := hslt_ex (hs_nb c_4)
    refine lv_aload_n hx hb dX7_finds_11 rfl (lv_at hl 0 rfl) ?_
    refine va_get (D := D) (ci := 6) (v := .ref h_now) (C := RX7) (T := TX7) (N := 10) hx hb hts hiX7 hown hK hP 0 rfl rfl 0 (Nat.le_of_ble_eq_true rfl) fl10 (fun _ h9 => h9) rfl dX7_finds_12 ?_
    refine lv_iload_n hx hb dX7_finds_15 rfl (lv_at hl 2 rfl) ?_
    refine hs_ciM (va_runV (As := [.int kk]) (rest := []) ⟨hx, hb, hml, hown, hts⟩ (g_isCut l D k _ h_now n_a n_N n_J kk (by first | assumption | exact ⟨by first | omega | (dsimp; omega), by first | omega | (dsimp; omega), ⟨by first | omega | (dsimp; omega), by first | omega | (dsimp; omega)⟩, by first | omega | (dsimp; omega), by first | omega | (dsimp; omega)⟩)) (cwV 1 hts gX7_finds_X6_isCut rfl rfl rfl ⟨rfl, hq_X6_isCut⟩ ⟨Nat.le_of_ble_eq_true rfl, Nat.le_of_ble_eq_true rfl⟩) (hs_preV hK hN (hs_subP (w := [_]) hP [1] rfl) (hD.sub (ws' := [_]) [1] (hs_upnd rfl) rfl) (ci := 5) (q0 := 0) rfl rfl) rfl rfl hl.1 rfl (lv_room (Nat.le_of_ble_eq_true rfl)) dX7_finds_16 ⟨Nat.le_of_ble_eq_true rfl, Nat.le_of_ble_eq_true rfl⟩) hP hD hS hA [true, false, true, true, true, true, true, true, true] [_, _, _, _, _, _, _, _] [_] rfl [0] rfl [0] (fun u_8 => [_]) (fun _ => rfl) (hs_upnd rfl) [true, false, true, true, true, true, true, true, true] (fun u_8 => [_, _, _, _, _, _, _, _, _]) (fun _ => rfl) (fun r_6 u_8 H locs hw_7 hP hD hS => ?_)
    refine hs_topi (hsb (hslt1 kk (n_N 0))) hw_7 ?_
    refine lv_if_ne (tgt := 24) hx hb dX7_finds_19 rfl (fun c_9 => ?_) (fun c_9 => ?_)
    · refine lv_aload_n hx hb dX7_finds_24 rfl (lv_at hl 0 rfl) ?_
      refine va_get (D := D) (ci := 6) (v := .ref h_now) (C := RX7) (T := TX7) (N := 10) hx hb hts hiX7 hown hK hP 0 rfl rfl 0 (Nat.le_of_ble_eq_true rfl) fl10 (fun _ h9 => h9) rfl dX7_finds_25 ?_
      refine lv_iload_n hx hb dX7_finds_28 rfl (lv_at hl 1 rfl) ?_
      refine lv_iload_n hx hb dX7_finds_29 rfl (lv_at hl 2 rfl) ?_
      refine hs_ciM (va_runV (As := [.int (nI j_5), .int kk]) (rest := []) ⟨hx, hb, hml, hown, hts⟩ (g_verdict l D k _ h_now n_a n_N n_J n_F j_5 kk (by first | assumption | exact ⟨by first | omega | (dsimp; omega), by first | omega | (dsimp; omega), ⟨by first | omega | (dsimp; omega), by first | omega | (dsimp; omega)⟩, by first | omega | (dsimp; omega), by first | omega | (dsimp; omega)⟩) (by omega)) (cwV 2 hts gX7_finds_X6_verdict rfl rfl rfl ⟨rfl, hq_X6_verdict⟩ ⟨Nat.le_of_ble_eq_true rfl, Nat.le_of_ble_eq_true rfl⟩) (hs_preV hK hN (hs_subP (w := [_, _, _, _, _, _, _, _]) hP [1, 2, 3, 4, 5, 6, 7, 8] rfl) (hD.sub (ws' := [_, _, _, _, _, _, _, _]) [1, 2, 3, 4, 5, 6, 7, 8] (hs_upnd rfl) rfl) (ci := 5) (q0 := 0) rfl rfl) rfl rfl hl.1 rfl (lv_room (Nat.le_of_ble_eq_true rfl)) dX7_finds_30 ⟨Nat.le_of_ble_eq_true rfl, Nat.le_of_ble_eq_true rfl⟩) hP hD hS hA [true, false, false, false, false, false, false, false, false] [_] [_, _, _, _, _, _, _, _] rfl [0, 1, 2, 3, 4, 5, 6, 7] rfl [0, 1, 2, 3, 4, 5, 6, 7] (fun u_12 => [_, _, _, _, _, _, _, _]) (fun _ => rfl) (hs_upnd rfl) [true, false, false, false, false, false, false, false, false] (fun u_12 => [_, _, _, _, _, _, _, _, _]) (fun _ => rfl) (fun r_10 u_12 H locs hw_11 hP hD hS => ?_)
      exact hs_iret hx hb hr hlocks hK hP hD hS () [0, 1, 2, 3, 4, 5, 6, 7, 8] rfl (hs_upnd rfl) dX7_finds_33 (trivial)
    · refine lv_iconst (v := (-1)) hx hb dX7_finds_22 hki_m1 ?_
      exact hs_iret hx hb hr hlocks hK hP hD hS () [0, 1, 2, 3, 4, 5, 6, 7, 8] rfl (hs_upnd rfl) dX7_finds_23 (trivial)

set_option maxHeartbeats 4000000 in
set_option maxRecDepth 100000 in
theorem gp_just (l : Launch) (D : va_G) (k : Nat → ClassId) (sz : Nat) (h : Nat) (h_now : Nat) (h_trial : Nat) (h_images : Nat) (h_imageThere : Nat) (h_teller : Nat) (h_ranks : Nat) (h_court : Nat) (h_sheets : Nat) (h_lf : Int32) (h_lt : Int32) (n_a : Nat → Nat) (n_N : Nat → Nat) (n_J : Nat → Int32) (n_F : Nat → Nat → Int32) (kk : Int32) (hN0 : thN n_N) (hF : thF n_N n_F) (h2 : 2 ≤ n_N 0) : MI l yX7_just wsX7_just ({ frames := 4, cells := 0, slots := 0, locals := 96 }) D k [.ref h, .int kk] [oq6 h h_now h_trial h_images h_imageThere h_teller h_ranks h_court h_sheets h_lf h_lt, oqT h_now n_a n_N n_J, oqF0 k n_a n_F, oqF1 k n_a n_F, oqF2 k n_a n_F, oqF3 k n_a n_F, oqF4 k n_a n_F, oqF5 k n_a n_F, oqF6 k n_a n_F] sz (fun (r : Int32) (u : Unit) => True) (fun (u : Unit) => [oq6 h h_now h_trial h_images h_imageThere h_teller h_ranks h_court h_sheets h_lf h_lt, oqT h_now n_a n_N n_J, oqF0 k n_a n_F, oqF1 k n_a n_F, oqF2 k n_a n_F, oqF3 k n_a n_F, oqF4 k n_a n_F, oqF5 k n_a n_F, oqF6 k n_a n_F]) := by
  refine Met.ofW (cc := cX7_just) (maxL := 2) (ret := (some .int)) hpn_X7 rfl ?_
  intro p e s m args below meth c s₁ B hml hv
  obtain ⟨rfl, hsz, hP, hK, hD0, hN⟩ := hv
  have hx := B.exec
  have hb := B.bytes
  have hr := B.returns
  have hlocks := B.notSynchronized
  have hts := atoms_spec (ws := wsX7_just) B.pre
  have hown := findClass_of_methodNamed B.named
  have hown : s.vm.findClass RX7 = some m.cls := hown
  have hiX7 : ∀ w ∈ u_ws RX7 TX7 10, w ∈ wsX7_just := fun w9 hw9 => List.mem_cons_of_mem _ (igX7 w9 hw9)
  have fl10 := hts (.fieldLink RX7 10 "HalfScales" "now" "LHalfScales$Thing;") (List.mem_cons_of_mem _ (hs_inG 1 215 rfl rfl))
  have hNn := hN0
  obtain ⟨I0, I1, ⟨I2, I2b⟩, I3, I4⟩ := hN0
  subst hsz
  have hD := hD0.self (sz := s.heap.size)
  generalize hAe : va_A [oq6 h h_now h_trial h_images h_imageThere h_teller h_ranks h_court h_sheets h_lf h_lt, oqT h_now n_a n_N n_J, oqF0 k n_a n_F, oqF1 k n_a n_F, oqF2 k n_a n_F, oqF3 k n_a n_F, oqF4 k n_a n_F, oqF5 k n_a n_F, oqF6 k n_a n_F] s.heap.size = A at hD ⊢
  have hA : ∀ q : Nat, s.heap.size ≤ q → A q := fun q h => by rw [← hAe]; exact Or.inr h
  have hS : va_S A s.heap s.heap [] := va_S.rf
  have hl := lv_entry ([.ref h, .int kk]) (n := 2) (Nat.le_of_ble_eq_true rfl)
  rw [lg_entry_eq]
  generalize (lg_sl ([.ref h, .int kk]) ++ List.replicate (2 - (lg_sl ([.ref h, .int kk])).length) Slot.unset).toArray = ls at hl ⊢
  have hl : lv_has ls 2 [(0, .ref h), (1, .int kk)] := hl
  have hP : va_P D vwCl [oq6 h h_now h_trial h_images h_imageThere h_teller h_ranks h_court h_sheets h_lf h_lt, oqT h_now n_a n_N n_J, oqF0 k n_a n_F, oqF1 k n_a n_F, oqF2 k n_a n_F, oqF3 k n_a n_F, oqF4 k n_a n_F, oqF5 k n_a n_F, oqF6 k n_a n_F] s.heap := hP
  refine lv_aload_n hx hb dX7_just_0 rfl (lv_at hl 0 rfl) ?_
  refine va_get (D := D) (ci := 6) (v := .ref h_now) (C := RX7) (T := TX7) (N := 10) hx hb hts hiX7 hown hK hP 0 rfl rfl 0 (Nat.le_of_ble_eq_true rfl) fl10 (fun _ h9 => h9) rfl dX7_just_1 ?_
  refine lv_iload_n hx hb dX7_just_4 rfl (lv_at hl 1 rfl) ?_
  refine hs_ciM (va_runV (As := [.int kk]) (rest := []) ⟨hx, hb, hml, hown, hts⟩ (g_isCut l D k _ h_now n_a n_N n_J kk (by first | assumption | exact ⟨by first | omega | (dsimp; omega), by first | omega | (dsimp; omega), ⟨by first | omega | (dsimp; omega), by first | omega | (dsimp; omega)⟩, by first | omega | (dsimp; omega), by first | omega | (dsimp; omega)⟩)) (cwV 1 hts gX7_just_X6_isCut rfl rfl rfl ⟨rfl, hq_X6_isCut⟩ ⟨Nat.le_of_ble_eq_true rfl, Nat.le_of_ble_eq_true rfl⟩) (hs_preV hK hN (hs_subP (w := [_]) hP [1] rfl) (hD.sub (ws' := [_]) [1] (hs_upnd rfl) rfl) (ci := 5) (q0 := 0) rfl rfl) rfl rfl hl.1 rfl (lv_room (Nat.le_of_ble_eq_true rfl)) dX7_just_5 ⟨Nat.le_of_ble_eq_true rfl, Nat.le_of_ble_eq_true rfl⟩) hP hD hS hA [true, false, true, true, true, true, true, true, true] [_, _, _, _, _, _, _, _] [_] rfl [0] rfl [0] (fun u_3 => [_]) (fun _ => rfl) (hs_upnd rfl) [true, false, true, true, true, true, true, true, true] (fun u_3 => [_, _, _, _, _, _, _, _, _]) (fun _ => rfl) (fun r_1 u_3 H locs hw_2 hP hD hS => ?_)
  refine hs_topi (hsb (hslt1 kk (n_N 0))) hw_2 ?_
  refine lv_if_eq (tgt := 22) hx hb dX7_just_8 rfl (fun c_4 => ?_) (fun c_4 => ?_)
  · refine lv_iconst (v := (-1)) hx hb dX7_just_22 hki_m1 ?_
    exact hs_iret hx hb hr hlocks hK hP hD hS () [0, 1, 2, 3, 4, 5, 6, 7, 8] rfl (hs_upnd rfl) dX7_just_23 (trivial)
  · refine lv_aload_n hx hb dX7_just_11 rfl (lv_at hl 0 rfl) ?_
    refine va_get (D := D) (ci := 6) (v := .ref h_now) (C := RX7) (T := TX7) (N := 10) hx hb hts hiX7 hown hK hP 0 rfl rfl 0 (Nat.le_of_ble_eq_true rfl) fl10 (fun _ h9 => h9) rfl dX7_just_12 ?_
    refine lv_iload_n hx hb dX7_just_15 rfl (lv_at hl 1 rfl) ?_
    refine hs_ciM (va_runV (As := [.int kk]) (rest := []) ⟨hx, hb, hml, hown, hts⟩ (g_justTo l D k _ h_now n_a n_N n_J n_F kk (by first | assumption | exact ⟨by first | omega | (dsimp; omega), by first | omega | (dsimp; omega), ⟨by first | omega | (dsimp; omega), by first | omega | (dsimp; omega)⟩, by first | omega | (dsimp; omega), by first | omega | (dsimp; omega)⟩)) (cwV 1 hts gX7_just_X6_justTo rfl rfl rfl ⟨rfl, hq_X6_justTo⟩ ⟨Nat.le_of_ble_eq_true rfl, Nat.le_of_ble_eq_true rfl⟩) (hs_preV hK hN (hs_subP (w := [_, _, _, _, _, _, _, _]) hP [1, 2, 3, 4, 5, 6, 7, 8] rfl) (hD.sub (ws' := [_, _, _, _, _, _, _, _]) [1, 2, 3, 4, 5, 6, 7, 8] (hs_upnd rfl) rfl) (ci := 5) (q0 := 0) rfl rfl) rfl rfl hl.1 rfl (lv_room (Nat.le_of_ble_eq_true rfl)) dX7_just_16 ⟨Nat.le_of_ble_eq_true rfl, Nat.le_of_ble_eq_true rfl⟩) hP hD hS hA [true, false, false, false, false, false, false, false, false] [_] [_, _, _, _, _, _, _, _] rfl [0, 1, 2, 3, 4, 5, 6, 7] rfl [0, 1, 2, 3, 4, 5, 6, 7] (fun u_7 => [_, _, _, _, _, _, _, _]) (fun _ => rfl) (hs_upnd rfl) [true, false, false, false, false, false, false, false, false] (fun u_7 => [_, _, _, _, _, _, _, _, _]) (fun _ => rfl) (fun r_5 u_7 H locs hw_6 hP hD hS => ?_)
    refine lv_goto (tgt := 23) hx hb dX7_just_19 rfl ?_
    exact hs_iret hx hb hr hlocks hK hP hD hS () [0, 1, 2, 3, 4, 5, 6, 7, 8] rfl (hs_upnd rfl) dX7_just_23 (trivial)

set_option maxHeartbeats 4000000 in
set_option maxRecDepth 100000 in
theorem gp_middle (l : Launch) (D : va_G) (k : Nat → ClassId) (sz : Nat) (h : Nat) (h_now : Nat) (h_trial : Nat) (h_images : Nat) (h_imageThere : Nat) (h_teller : Nat) (h_ranks : Nat) (h_court : Nat) (h_sheets : Nat) (h_lf : Int32) (h_lt : Int32) (n_a : Nat → Nat) (n_N : Nat → Nat) (n_J : Nat → Int32) (n_F : Nat → Nat → Int32) (what : Int32) (hN0 : thN n_N) (hF : thF n_N n_F) (h2 : 2 ≤ n_N 0) : MI l yX7_middle wsX7_middle ({ frames := 4, cells := 0, slots := 0, locals := 96 }) D k [.ref h, .int what] [oq6 h h_now h_trial h_images h_imageThere h_teller h_ranks h_court h_sheets h_lf h_lt, oqT h_now n_a n_N n_J, oqF0 k n_a n_F, oqF1 k n_a n_F, oqF2 k n_a n_F, oqF3 k n_a n_F, oqF4 k n_a n_F, oqF5 k n_a n_F, oqF6 k n_a n_F] sz (fun (r : Int32) (u : Unit) => True) (fun (u : Unit) => [oq6 h h_now h_trial h_images h_imageThere h_teller h_ranks h_court h_sheets h_lf h_lt, oqT h_now n_a n_N n_J, oqF0 k n_a n_F, oqF1 k n_a n_F, oqF2 k n_a n_F, oqF3 k n_a n_F, oqF4 k n_a n_F, oqF5 k n_a n_F, oqF6 k n_a n_F]) := by
  refine Met.ofW (cc := cX7_middle) (maxL := 6) (ret := (some .int)) hpn_X7 rfl ?_
  intro p e s m args below meth c s₁ B hml hv
  obtain ⟨rfl, hsz, hP, hK, hD0, hN⟩ := hv
  have hx := B.exec
  have hb := B.bytes
  have hr := B.returns
  have hlocks := B.notSynchronized
  have hts := atoms_spec (ws := wsX7_middle) B.pre
  have hown := findClass_of_methodNamed B.named
  have hown : s.vm.findClass RX7 = some m.cls := hown
  have hiX6 : ∀ w ∈ u_ws RX6 TX6 15, w ∈ wsX7_middle := fun w9 hw9 => List.mem_cons_of_mem _ (igX6 w9 hw9)
  have hiX7 : ∀ w ∈ u_ws RX7 TX7 10, w ∈ wsX7_middle := fun w9 hw9 => List.mem_cons_of_mem _ (igX7 w9 hw9)
  have fl10 := hts (.fieldLink RX7 10 "HalfScales" "now" "LHalfScales$Thing;") (List.mem_cons_of_mem _ (hs_inG 1 215 rfl rfl))
  have fl93 := hts (.fieldLink RX7 93 "HalfScales$Thing" "cellCount" "I") (List.mem_cons_of_mem _ (hs_inG 1 53 rfl rfl))
  have hNn := hN0
  obtain ⟨I0, I1, ⟨I2, I2b⟩, I3, I4⟩ := hN0
  subst hsz
  have hD := hD0.self (sz := s.heap.size)
  generalize hAe : va_A [oq6 h h_now h_trial h_images h_imageThere h_teller h_ranks h_court h_sheets h_lf h_lt, oqT h_now n_a n_N n_J, oqF0 k n_a n_F, oqF1 k n_a n_F, oqF2 k n_a n_F, oqF3 k n_a n_F, oqF4 k n_a n_F, oqF5 k n_a n_F, oqF6 k n_a n_F] s.heap.size = A at hD ⊢
  have hA : ∀ q : Nat, s.heap.size ≤ q → A q := fun q h => by rw [← hAe]; exact Or.inr h
  have hS : va_S A s.heap s.heap [] := va_S.rf
  have hl := lv_entry ([.ref h, .int what]) (n := 6) (Nat.le_of_ble_eq_true rfl)
  rw [lg_entry_eq]
  generalize (lg_sl ([.ref h, .int what]) ++ List.replicate (6 - (lg_sl ([.ref h, .int what])).length) Slot.unset).toArray = ls at hl ⊢
  have hl : lv_has ls 6 [(0, .ref h), (1, .int what)] := hl
  have hP : va_P D vwCl [oq6 h h_now h_trial h_images h_imageThere h_teller h_ranks h_court h_sheets h_lf h_lt, oqT h_now n_a n_N n_J, oqF0 k n_a n_F, oqF1 k n_a n_F, oqF2 k n_a n_F, oqF3 k n_a n_F, oqF4 k n_a n_F, oqF5 k n_a n_F, oqF6 k n_a n_F] s.heap := hP
  refine lv_iload_n hx hb dX7_middle_0 rfl (lv_at hl 1 rfl) ?_
  refine lv_iconst (v := 0) hx hb dX7_middle_1 hki_0 ?_
  refine lv_iconst (v := 1) hx hb dX7_middle_2 hki_1 ?_
  refine hs_pi (va_runS (As := [.int what, .int 0, .int 1]) (rest := []) ⟨hx, hb, hml, hown, hts⟩ (g_within l D k _ what 0 1) (va_cwS 3 hts gX7_middle_X7_within rfl rfl rfl hq_X7_within ⟨Nat.le_of_ble_eq_true rfl, Nat.le_of_ble_eq_true rfl⟩) (hs_preS hK hN (hs_subP (w := []) hP [] rfl) (hD.sub (ws' := []) [] rfl rfl)) rfl rfl hl.1 rfl (lv_room (Nat.le_of_ble_eq_true rfl)) dX7_middle_3 ⟨Nat.le_of_ble_eq_true rfl, Nat.le_of_ble_eq_true rfl⟩) hP hD hS hA (fun r_1 u_3 H locs hw_2 hP hS => ?_)
  refine hs_topi (hsb (hsin what 0 1)) hw_2 ?_
  refine lv_if_ne (tgt := 11) hx hb dX7_middle_6 rfl (fun c_4 => ?_) (fun c_4 => ?_)
  · refine lv_iconst (v := 1) hx hb dX7_middle_11 hki_1 ?_
    refine lv_istore_n (lv' := [(2, .int 1), (0, .ref h), (1, .int what)]) hx hb dX7_middle_12 rfl hl (Nat.le_of_ble_eq_true rfl) rfl (fun ls hl => ?_)
    refine lv_aload_n hx hb dX7_middle_13 rfl (lv_at hl 1 rfl) ?_
    refine va_get (D := D) (ci := 6) (v := .ref h_now) (C := RX7) (T := TX7) (N := 10) hx hb hts hiX7 hown hK hP 0 rfl rfl 0 (Nat.le_of_ble_eq_true rfl) fl10 (fun _ h9 => h9) rfl dX7_middle_14 ?_
    refine lv_iconst (v := 1) hx hb dX7_middle_17 hki_1 ?_
    refine hs_ciM (va_runV (As := [.int 1]) (rest := []) ⟨hx, hb, hml, hown, hts⟩ (g_justTo l D k _ h_now n_a n_N n_J n_F 1 (by first | assumption | exact ⟨by first | omega | (dsimp; omega), by first | omega | (dsimp; omega), ⟨by first | omega | (dsimp; omega), by first | omega | (dsimp; omega)⟩, by first | omega | (dsimp; omega), by first | omega | (dsimp; omega)⟩)) (cwV 1 hts gX7_middle_X6_justTo rfl rfl rfl ⟨rfl, hq_X6_justTo⟩ ⟨Nat.le_of_ble_eq_true rfl, Nat.le_of_ble_eq_true rfl⟩) (hs_preV hK hN (hs_subP (w := [_, _, _, _, _, _, _, _]) hP [1, 2, 3, 4, 5, 6, 7, 8] rfl) (hD.sub (ws' := [_, _, _, _, _, _, _, _]) [1, 2, 3, 4, 5, 6, 7, 8] (hs_upnd rfl) rfl) (ci := 5) (q0 := 0) rfl rfl) rfl rfl hl.1 rfl (lv_room (Nat.le_of_ble_eq_true rfl)) dX7_middle_18 ⟨Nat.le_of_ble_eq_true rfl, Nat.le_of_ble_eq_true rfl⟩) hP hD hS hA [true, false, false, false, false, false, false, false, false] [_] [_, _, _, _, _, _, _, _] rfl [0, 1, 2, 3, 4, 5, 6, 7] rfl [0, 1, 2, 3, 4, 5, 6, 7] (fun u_7 => [_, _, _, _, _, _, _, _]) (fun _ => rfl) (hs_upnd rfl) [true, false, false, false, false, false, false, false, false] (fun u_7 => [_, _, _, _, _, _, _, _, _]) (fun _ => rfl) (fun r_5 u_7 H locs hw_6 hP hD hS => ?_)
    refine hs_pi (va_runS (As := [.int r_5]) (rest := []) ⟨hx, hb, hml, hown, hts⟩ (g_bitCount l D k _ r_5) (va_cwS 1 hts gX7_middle_J6_bitCount_0f7a4 rfl rfl rfl hq_J6_bitCount_0f7a4 ⟨Nat.le_of_ble_eq_true rfl, Nat.le_of_ble_eq_true rfl⟩) (hs_preS hK hN (hs_subP (w := []) hP [] rfl) (hD.sub (ws' := []) [] rfl rfl)) rfl rfl hl.1 rfl (lv_room (Nat.le_of_ble_eq_true rfl)) dX7_middle_21 ⟨Nat.le_of_ble_eq_true rfl, Nat.le_of_ble_eq_true rfl⟩) hP hD hS hA (fun r_8 u_10 H locs hw_9 hP hS => ?_)
    refine lv_istore_n (lv' := [(3, .int r_8), (2, .int 1), (0, .ref h), (1, .int what)]) hx hb dX7_middle_24 rfl hl (Nat.le_of_ble_eq_true rfl) rfl (fun ls hl => ?_)
    refine lv_iconst (v := 2) hx hb dX7_middle_25 hki_2 ?_
    refine lv_istore (lv' := [(4, .int 2), (3, .int r_8), (2, .int 1), (0, .ref h), (1, .int what)]) hx hb dX7_middle_26 hl (Nat.le_of_ble_eq_true rfl) rfl (fun ls hl => ?_)
    refine hs_while (σ := Int32 × Int32 × Nat) (fun x => x.2.2 ≤ n_N 0 + 2) (fun x => n_N 0 + 2 - x.2.2) (fun x => [oq6 h h_now h_trial h_images h_imageThere h_teller h_ranks h_court h_sheets h_lf h_lt, oqT h_now n_a n_N n_J, oqF0 k n_a n_F, oqF1 k n_a n_F, oqF2 k n_a n_F, oqF3 k n_a n_F, oqF4 k n_a n_F, oqF5 k n_a n_F, oqF6 k n_a n_F]) (fun x => [(4, .int (nI (x.2.2))), (3, .int (x.2.1)), (2, .int (x.1)), (0, .ref h), (1, .int what)]) ?_ (1, r_8, 2) ?_ hP hD hS hl
    · intro x hI ih28 H locs ls hP hD hS hl
      obtain ⟨best, most, kk⟩ := x
      try dsimp only at hI
      have hP : va_P D vwCl [_, _, _, _, _, _, _, _, _] H := hP
      have hD : va_D A [_, _, _, _, _, _, _, _, _] := hD
      have hl : lv_has ls 6 [(4, .int (nI kk)), (3, .int most), (2, .int best), (0, .ref h), (1, .int what)] := hl
      refine lv_iload hx hb dX7_middle_28 (lv_at hl 0 rfl) ?_
      refine lv_aload_n hx hb dX7_middle_30 rfl (lv_at hl 3 rfl) ?_
      refine va_get (D := D) (ci := 6) (v := .ref h_now) (C := RX7) (T := TX7) (N := 10) hx hb hts hiX7 hown hK hP 0 rfl rfl 0 (Nat.le_of_ble_eq_true rfl) fl10 (fun _ h9 => h9) rfl dX7_middle_31 ?_
      refine va_get (D := D) (ci := 5) (v := .int (nI (n_N 0))) (C := RX6) (T := TX6) (N := 15) hx hb hts hiX6 hown hK hP 1 rfl rfl 7 (Nat.le_of_ble_eq_true rfl) fl93 (fun _ h9 => h9) rfl dX7_middle_34 ?_
      refine lv_icmp_ge (tgt := 72) hx hb dX7_middle_37 rfl (fun c_11 => ?_) (fun c_11 => ?_)
      · have nc_11 : (n_N 0) ≤ kk := (nI_leI (a := (n_N 0)) (b := kk) (by omega) (by omega)).mp c_11
        refine lv_iload_n hx hb dX7_middle_72 rfl (lv_at hl 4 rfl) ?_
        refine lv_if_ne (tgt := 80) hx hb dX7_middle_73 rfl (fun c_12 => ?_) (fun c_12 => ?_)
        · refine lv_iload_n hx hb dX7_middle_80 rfl (lv_at hl 1 rfl) ?_
          exact hs_iret hx hb hr hlocks hK hP hD hS () [0, 1, 2, 3, 4, 5, 6, 7, 8] rfl (hs_upnd rfl) dX7_middle_81 (trivial)
        · refine lv_iload_n hx hb dX7_middle_76 rfl (lv_at hl 2 rfl) ?_
          refine lv_goto (tgt := 81) hx hb dX7_middle_77 rfl ?_
          exact hs_iret hx hb hr hlocks hK hP hD hS () [0, 1, 2, 3, 4, 5, 6, 7, 8] rfl (hs_upnd rfl) dX7_middle_81 (trivial)
      · have nc_11 : ¬ (n_N 0) ≤ kk := fun hq9 => c_11 ((nI_leI (a := (n_N 0)) (b := kk) (by omega) (by omega)).mpr hq9)
        refine lv_aload_n hx hb dX7_middle_40 rfl (lv_at hl 3 rfl) ?_
        refine va_get (D := D) (ci := 6) (v := .ref h_now) (C := RX7) (T := TX7) (N := 10) hx hb hts hiX7 hown hK hP 0 rfl rfl 0 (Nat.le_of_ble_eq_true rfl) fl10 (fun _ h9 => h9) rfl dX7_middle_41 ?_
        refine lv_iload hx hb dX7_middle_44 (lv_at hl 0 rfl) ?_
        refine hs_ciM (va_runV (As := [.int (nI kk)]) (rest := []) ⟨hx, hb, hml, hown, hts⟩ (g_justTo l D k _ h_now n_a n_N n_J n_F (nI kk) (by first | assumption | exact ⟨by first | omega | (dsimp; omega), by first | omega | (dsimp; omega), ⟨by first | omega | (dsimp; omega), by first | omega | (dsimp; omega)⟩, by first | omega | (dsimp; omega), by first | omega | (dsimp; omega)⟩)) (cwV 1 hts gX7_middle_X6_justTo rfl rfl rfl ⟨rfl, hq_X6_justTo⟩ ⟨Nat.le_of_ble_eq_true rfl, Nat.le_of_ble_eq_true rfl⟩) (hs_preV hK hN (hs_subP (w := [_, _, _, _, _, _, _, _]) hP [1, 2, 3, 4, 5, 6, 7, 8] rfl) (hD.sub (ws' := [_, _, _, _, _, _, _, _]) [1, 2, 3, 4, 5, 6, 7, 8] (hs_upnd rfl) rfl) (ci := 5) (q0 := 0) rfl rfl) rfl rfl hl.1 rfl (lv_room (Nat.le_of_ble_eq_true rfl)) dX7_middle_46 ⟨Nat.le_of_ble_eq_true rfl, Nat.le_of_ble_eq_true rfl⟩) hP hD hS hA [true, false, false, false, false, false, false, false, false] [_] [_, _, _, _, _, _, _, _] rfl [0, 1, 2, 3, 4, 5, 6, 7] rfl [0, 1, 2, 3, 4, 5, 6, 7] (fun u_15 => [_, _, _, _, _, _, _, _]) (fun _ => rfl) (hs_upnd rfl) [true, false, false, false, false, false, false, false, false] (fun u_15 => [_, _, _, _, _, _, _, _, _]) (fun _ => rfl) (fun r_13 u_15 H locs hw_14 hP hD hS => ?_)
        refine hs_pi (va_runS (As := [.int r_13]) (rest := []) ⟨hx, hb, hml, hown, hts⟩ (g_bitCount l D k _ r_13) (va_cwS 1 hts gX7_middle_J6_bitCount_0f7a4 rfl rfl rfl hq_J6_bitCount_0f7a4 ⟨Nat.le_of_ble_eq_true rfl, Nat.le_of_ble_eq_true rfl⟩) (hs_preS hK hN (hs_subP (w := []) hP [] rfl) (hD.sub (ws' := []) [] rfl rfl)) rfl rfl hl.1 rfl (lv_room (Nat.le_of_ble_eq_true rfl)) dX7_middle_49 ⟨Nat.le_of_ble_eq_true rfl, Nat.le_of_ble_eq_true rfl⟩) hP hD hS hA (fun r_16 u_18 H locs hw_17 hP hS => ?_)
        refine lv_istore (lv' := [(5, .int r_16), (4, .int (nI kk)), (3, .int most), (2, .int best), (0, .ref h), (1, .int what)]) hx hb dX7_middle_52 hl (Nat.le_of_ble_eq_true rfl) rfl (fun ls hl => ?_)
        refine lv_iload hx hb dX7_middle_54 (lv_at hl 0 rfl) ?_
        refine lv_iload_n hx hb dX7_middle_56 rfl (lv_at hl 2 rfl) ?_
        refine lv_icmp_le (tgt := 66) hx hb dX7_middle_57 rfl (fun c_19 => ?_) (fun c_19 => ?_)
        · refine lv_iinc (v := nI (kk + 1)) (lv' := [(4, .int (nI (kk + 1))), (5, .int r_16), (3, .int most), (2, .int best), (0, .ref h), (1, .int what)]) hx hb dX7_middle_66 hl (k := 1) rfl (nI_add (kk) 1) (Nat.le_of_ble_eq_true rfl) rfl (fun ls hl => ?_)
          refine lv_goto (tgt := 28) hx hb dX7_middle_69 rfl ?_
          exact ih28 (best, most, kk + 1) (by (try dsimp only); first | omega | (refine ⟨?_, ?_⟩ <;> first | omega | assumption)) (by (try dsimp only); omega) _ _ _ hP hD hS (lv_sub hl [0, 2, 3, 4, 5] rfl)
        · refine lv_iload hx hb dX7_middle_60 (lv_at hl 1 rfl) ?_
          refine lv_istore_n (lv' := [(2, .int (nI kk)), (5, .int r_16), (4, .int (nI kk)), (3, .int most), (0, .ref h), (1, .int what)]) hx hb dX7_middle_62 rfl hl (Nat.le_of_ble_eq_true rfl) rfl (fun ls hl => ?_)
          refine lv_iload hx hb dX7_middle_63 (lv_at hl 1 rfl) ?_
          refine lv_istore_n (lv' := [(3, .int r_16), (2, .int (nI kk)), (5, .int r_16), (4, .int (nI kk)), (0, .ref h), (1, .int what)]) hx hb dX7_middle_65 rfl hl (Nat.le_of_ble_eq_true rfl) rfl (fun ls hl => ?_)
          refine lv_iinc (v := nI (kk + 1)) (lv' := [(4, .int (nI (kk + 1))), (3, .int r_16), (2, .int (nI kk)), (5, .int r_16), (0, .ref h), (1, .int what)]) hx hb dX7_middle_66 hl (k := 3) rfl (nI_add (kk) 1) (Nat.le_of_ble_eq_true rfl) rfl (fun ls hl => ?_)
          refine lv_goto (tgt := 28) hx hb dX7_middle_69 rfl ?_
          exact ih28 (nI kk, r_16, kk + 1) (by (try dsimp only); first | omega | (refine ⟨?_, ?_⟩ <;> first | omega | assumption)) (by (try dsimp only); omega) _ _ _ hP hD hS (lv_sub hl [0, 1, 2, 4, 5] rfl)
    · (try dsimp only); first | omega | (refine ⟨?_, ?_⟩ <;> first | omega | assumption)
  · refine lv_iconst (v := (-1)) hx hb dX7_middle_9 hki_m1 ?_
    exact hs_iret hx hb hr hlocks hK hP hD hS () [0, 1, 2, 3, 4, 5, 6, 7, 8] rfl (hs_upnd rfl) dX7_middle_10 (trivial)

set_option maxHeartbeats 4000000 in
set_option maxRecDepth 100000 in
theorem gp_honest (l : Launch) (D : va_G) (k : Nat → ClassId) (sz : Nat) (h : Nat) (h_now : Nat) (h_trial : Nat) (h_images : Nat) (h_imageThere : Nat) (h_teller : Nat) (h_ranks : Nat) (h_court : Nat) (h_sheets : Nat) (h_lf : Int32) (h_lt : Int32) (n_a : Nat → Nat) (n_N : Nat → Nat) (n_J : Nat → Int32) (n_F : Nat → Nat → Int32) (i : Int32) (hN0 : thN n_N) (hF : thF n_N n_F) (h2 : 2 ≤ n_N 0) : MI l yX7_honest wsX7_honest ({ frames := 3, cells := 0, slots := 0, locals := 75 }) D k [.ref h, .int i] [oq6 h h_now h_trial h_images h_imageThere h_teller h_ranks h_court h_sheets h_lf h_lt, oqT h_now n_a n_N n_J, oqF0 k n_a n_F, oqF1 k n_a n_F, oqF2 k n_a n_F, oqF3 k n_a n_F, oqF4 k n_a n_F, oqF5 k n_a n_F, oqF6 k n_a n_F] sz (fun (r : Int32) (u : Unit) => True) (fun (u : Unit) => [oq6 h h_now h_trial h_images h_imageThere h_teller h_ranks h_court h_sheets h_lf h_lt, oqT h_now n_a n_N n_J, oqF0 k n_a n_F, oqF1 k n_a n_F, oqF2 k n_a n_F, oqF3 k n_a n_F, oqF4 k n_a n_F, oqF5 k n_a n_F, oqF6 k n_a n_F]) := by
  refine Met.ofW (cc := cX7_honest) (maxL := 2) (ret := (some .int)) hpn_X7 rfl ?_
  intro p e s m args below meth c s₁ B hml hv
  obtain ⟨rfl, hsz, hP, hK, hD0, hN⟩ := hv
  have hx := B.exec
  have hb := B.bytes
  have hr := B.returns
  have hlocks := B.notSynchronized
  have hts := atoms_spec (ws := wsX7_honest) B.pre
  have hown := findClass_of_methodNamed B.named
  have hown : s.vm.findClass RX7 = some m.cls := hown
  have hiX7 : ∀ w ∈ u_ws RX7 TX7 10, w ∈ wsX7_honest := fun w9 hw9 => List.mem_cons_of_mem _ (igX7 w9 hw9)
  have fl10 := hts (.fieldLink RX7 10 "HalfScales" "now" "LHalfScales$Thing;") (List.mem_cons_of_mem _ (hs_inG 1 215 rfl rfl))
  have hNn := hN0
  obtain ⟨I0, I1, ⟨I2, I2b⟩, I3, I4⟩ := hN0
  subst hsz
  have hD := hD0.self (sz := s.heap.size)
  generalize hAe : va_A [oq6 h h_now h_trial h_images h_imageThere h_teller h_ranks h_court h_sheets h_lf h_lt, oqT h_now n_a n_N n_J, oqF0 k n_a n_F, oqF1 k n_a n_F, oqF2 k n_a n_F, oqF3 k n_a n_F, oqF4 k n_a n_F, oqF5 k n_a n_F, oqF6 k n_a n_F] s.heap.size = A at hD ⊢
  have hA : ∀ q : Nat, s.heap.size ≤ q → A q := fun q h => by rw [← hAe]; exact Or.inr h
  have hS : va_S A s.heap s.heap [] := va_S.rf
  have hl := lv_entry ([.ref h, .int i]) (n := 2) (Nat.le_of_ble_eq_true rfl)
  rw [lg_entry_eq]
  generalize (lg_sl ([.ref h, .int i]) ++ List.replicate (2 - (lg_sl ([.ref h, .int i])).length) Slot.unset).toArray = ls at hl ⊢
  have hl : lv_has ls 2 [(0, .ref h), (1, .int i)] := hl
  have hP : va_P D vwCl [oq6 h h_now h_trial h_images h_imageThere h_teller h_ranks h_court h_sheets h_lf h_lt, oqT h_now n_a n_N n_J, oqF0 k n_a n_F, oqF1 k n_a n_F, oqF2 k n_a n_F, oqF3 k n_a n_F, oqF4 k n_a n_F, oqF5 k n_a n_F, oqF6 k n_a n_F] s.heap := hP
  refine lv_aload_n hx hb dX7_honest_0 rfl (lv_at hl 0 rfl) ?_
  refine va_get (D := D) (ci := 6) (v := .ref h_now) (C := RX7) (T := TX7) (N := 10) hx hb hts hiX7 hown hK hP 0 rfl rfl 0 (Nat.le_of_ble_eq_true rfl) fl10 (fun _ h9 => h9) rfl dX7_honest_1 ?_
  refine lv_iload_n hx hb dX7_honest_4 rfl (lv_at hl 1 rfl) ?_
  refine hs_ciM (va_runV (As := [.int i]) (rest := []) ⟨hx, hb, hml, hown, hts⟩ (g_isPerson l D k _ h_now n_a n_N n_J i (by first | assumption | exact ⟨by first | omega | (dsimp; omega), by first | omega | (dsimp; omega), ⟨by first | omega | (dsimp; omega), by first | omega | (dsimp; omega)⟩, by first | omega | (dsimp; omega), by first | omega | (dsimp; omega)⟩)) (cwV 1 hts gX7_honest_X6_isPerson rfl rfl rfl ⟨rfl, hq_X6_isPerson⟩ ⟨Nat.le_of_ble_eq_true rfl, Nat.le_of_ble_eq_true rfl⟩) (hs_preV hK hN (hs_subP (w := [_]) hP [1] rfl) (hD.sub (ws' := [_]) [1] (hs_upnd rfl) rfl) (ci := 5) (q0 := 0) rfl rfl) rfl rfl hl.1 rfl (lv_room (Nat.le_of_ble_eq_true rfl)) dX7_honest_5 ⟨Nat.le_of_ble_eq_true rfl, Nat.le_of_ble_eq_true rfl⟩) hP hD hS hA [true, false, true, true, true, true, true, true, true] [_, _, _, _, _, _, _, _] [_] rfl [0] rfl [0] (fun u_3 => [_]) (fun _ => rfl) (hs_upnd rfl) [true, false, true, true, true, true, true, true, true] (fun u_3 => [_, _, _, _, _, _, _, _, _]) (fun _ => rfl) (fun r_1 u_3 H locs hw_2 hP hD hS => ?_)
  refine hs_topi (hsb (hslt i (n_N 1))) hw_2 ?_
  refine lv_if_eq (tgt := 22) hx hb dX7_honest_8 rfl (fun c_4 => ?_) (fun c_4 => ?_)
  · refine lv_iconst (v := (-1)) hx hb dX7_honest_22 hki_m1 ?_
    exact hs_iret hx hb hr hlocks hK hP hD hS () [0, 1, 2, 3, 4, 5, 6, 7, 8] rfl (hs_upnd rfl) dX7_honest_23 (trivial)
  · obtain ⟨j_5, hj_5, rfl⟩ := hslt_ex (hs_nb c_4)
    refine lv_aload_n hx hb dX7_honest_11 rfl (lv_at hl 0 rfl) ?_
    refine va_get (D := D) (ci := 6) (v := .ref h_now) (C := RX7) (T := TX7) (N := 10) hx hb hts hiX7 hown hK hP 0 rfl rfl 0 (Nat.le_of_ble_eq_true rfl) fl10 (fun _ h9 => h9) rfl dX7_honest_12 ?_
    refine lv_iload_n hx hb dX7_honest_15 rfl (lv_at hl 1 rfl) ?_
    refine hs_ciM (va_runS (As := [.ref h_now, .int (nI j_5)]) (rest := []) ⟨hx, hb, hml, hown, hts⟩ (g_honestCut l D k _ h_now n_a n_N n_J n_F j_5 (by first | assumption | exact ⟨by first | omega | (dsimp; omega), by first | omega | (dsimp; omega), ⟨by first | omega | (dsimp; omega), by first | omega | (dsimp; omega)⟩, by first | omega | (dsimp; omega), by first | omega | (dsimp; omega)⟩) (by omega)) (va_cwS 2 hts gX7_honest_X1_honestCut rfl rfl rfl hq_X1_honestCut ⟨Nat.le_of_ble_eq_true rfl, Nat.le_of_ble_eq_true rfl⟩) (hs_preS hK hN (hs_subP (w := [_, _, _, _, _, _, _, _]) hP [1, 2, 3, 4, 5, 6, 7, 8] rfl) (hD.sub (ws' := [_, _, _, _, _, _, _, _]) [1, 2, 3, 4, 5, 6, 7, 8] (hs_upnd rfl) rfl)) rfl rfl hl.1 rfl (lv_room (Nat.le_of_ble_eq_true rfl)) dX7_honest_16 ⟨Nat.le_of_ble_eq_true rfl, Nat.le_of_ble_eq_true rfl⟩) hP hD hS hA [true, false, false, false, false, false, false, false, false] [_] [_, _, _, _, _, _, _, _] rfl [0, 1, 2, 3, 4, 5, 6, 7] rfl [0, 1, 2, 3, 4, 5, 6, 7] (fun u_8 => [_, _, _, _, _, _, _, _]) (fun _ => rfl) (hs_upnd rfl) [true, false, false, false, false, false, false, false, false] (fun u_8 => [_, _, _, _, _, _, _, _, _]) (fun _ => rfl) (fun r_6 u_8 H locs hw_7 hP hD hS => ?_)
    refine lv_goto (tgt := 23) hx hb dX7_honest_19 rfl ?_
    exact hs_iret hx hb hr hlocks hK hP hD hS () [0, 1, 2, 3, 4, 5, 6, 7, 8] rfl (hs_upnd rfl) dX7_honest_23 (trivial)

set_option maxHeartbeats 4000000 in
set_option maxRecDepth 100000 in
theorem g_canWeigh (l : Launch) (D : va_G) (k : Nat → ClassId) (sz : Nat) (t : Nat) (t_a : Nat → Nat) (t_N : Nat → Nat) (t_J : Nat → Int32) (i : Int32) (v : Int32) (hN0 : thN t_N) : MI l yX6_canWeigh wsX6_canWeigh ({ frames := 2, cells := 0, slots := 0, locals := 43 }) D k [.ref t, .int i, .int v] [oqT t t_a t_N t_J] sz (fun (r : Int32) (u : Unit) => r = hsb (hslt i (t_N 0) && hsin v 0 9)) (fun (u : Unit) => [oqT t t_a t_N t_J]) := by
  refine Met.ofW (cc := cX6_canWeigh) (maxL := 3) (ret := (some .boolean)) hpn_X6 rfl ?_
  intro p e s m args below meth c s₁ B hml hv
  obtain ⟨rfl, hsz, hP, hK, hD0, hN⟩ := hv
  have hx := B.exec
  have hb := B.bytes
  have hr := B.returns
  have hlocks := B.notSynchronized
  have hts := atoms_spec (ws := wsX6_canWeigh) B.pre
  have hown := findClass_of_methodNamed B.named
  have hown : s.vm.findClass RX6 = some m.cls := hown
  have iniX7 := hts (.initialized RX7) (List.mem_cons_of_mem _ (hs_inG 1 1 rfl rfl))
  have st_X7_within := hts (.static yX7_within) (List.mem_cons_of_mem _ (hs_inG 2 11 rfl rfl))
  obtain ⟨I0, I1, ⟨I2, I2b⟩, I3, I4⟩ := hN0
  subst hsz
  have hD := hD0.self (sz := s.heap.size)
  generalize hAe : va_A [oqT t t_a t_N t_J] s.heap.size = A at hD ⊢
  have hA : ∀ q : Nat, s.heap.size ≤ q → A q := fun q h => by rw [← hAe]; exact Or.inr h
  have hS : va_S A s.heap s.heap [] := va_S.rf
  have hl := lv_entry ([.ref t, .int i, .int v]) (n := 3) (Nat.le_of_ble_eq_true rfl)
  rw [lg_entry_eq]
  generalize (lg_sl ([.ref t, .int i, .int v]) ++ List.replicate (3 - (lg_sl ([.ref t, .int i, .int v])).length) Slot.unset).toArray = ls at hl ⊢
  have hl : lv_has ls 3 [(0, .ref t), (1, .int i), (2, .int v)] := hl
  have hP : va_P D vwCl [oqT t t_a t_N t_J] s.heap := hP
  refine lv_aload_n hx hb dX6_canWeigh_0 rfl (lv_at hl 0 rfl) ?_
  refine lv_iload_n hx hb dX6_canWeigh_1 rfl (lv_at hl 1 rfl) ?_
  refine hs_ciM (va_runV (As := [.int i]) (rest := []) ⟨hx, hb, hml, hown, hts⟩ (g_isCell l D k _ t t_a t_N t_J i (by first | assumption | exact ⟨by first | omega | (dsimp; omega), by first | omega | (dsimp; omega), ⟨by first | omega | (dsimp; omega), by first | omega | (dsimp; omega)⟩, by first | omega | (dsimp; omega), by first | omega | (dsimp; omega)⟩)) (cwV 1 hts gX6_canWeigh_X6_isCell rfl rfl rfl ⟨rfl, hq_X6_isCell⟩ ⟨Nat.le_of_ble_eq_true rfl, Nat.le_of_ble_eq_true rfl⟩) (hs_preV hK hN (hs_subP (w := [_]) hP [0] rfl) (hD.sub (ws' := [_]) [0] (hs_upnd rfl) rfl) (ci := 5) (q0 := 0) rfl rfl) rfl rfl hl.1 rfl (lv_room (Nat.le_of_ble_eq_true rfl)) dX6_canWeigh_2 ⟨Nat.le_of_ble_eq_true rfl, Nat.le_of_ble_eq_true rfl⟩) hP hD hS hA [false] [] [_] rfl [0] rfl [0] (fun u_3 => [_]) (fun _ => rfl) (hs_upnd rfl) [false] (fun u_3 => [_]) (fun _ => rfl) (fun r_1 u_3 H locs hw_2 hP hD hS => ?_)
  refine hs_topi (hsb (hslt i (t_N 0))) hw_2 ?_
  refine lv_if_eq (tgt := 22) hx hb dX6_canWeigh_5 rfl (fun c_4 => ?_) (fun c_4 => ?_)
  · refine lv_iconst (v := 0) hx hb dX6_canWeigh_22 hki_0 ?_
    exact hs_zret hx hb hr hlocks hK hP hD hS () [0] rfl (hs_upnd rfl) dX6_canWeigh_23 rfl (by simp only [hsb_0, hsb_1] at c_4; simp [hsb, c_4])
  · refine lv_iload_n hx hb dX6_canWeigh_8 rfl (lv_at hl 2 rfl) ?_
    refine lv_iconst (v := 0) hx hb dX6_canWeigh_9 hki_0 ?_
    refine lv_bipush (v := 9) hx hb dX6_canWeigh_10 hkb_9 ?_
    refine hs_pi (va_runSN (As := [.int v, .int 0, .int 9]) (rest := []) ⟨hx, hb, hml, hown, hts⟩ (g_within l D k _ v 0 9) ⟨(va_cnB 3 hts gX6_canWeigh_X7_within_n67 rfl rfl rfl hN.2.2.2.2.2.2.1 iniX7 hq_X7_within ⟨Nat.le_of_ble_eq_true rfl, Nat.le_of_ble_eq_true rfl⟩), st_X7_within, trivial⟩ (hs_preS hK hN (hs_subP (w := []) hP [] rfl) (hD.sub (ws' := []) [] rfl rfl)) rfl rfl hl.1 rfl (lv_room (Nat.le_of_ble_eq_true rfl)) dX6_canWeigh_12 ⟨Nat.le_of_ble_eq_true rfl, Nat.le_of_ble_eq_true rfl⟩) hP hD hS hA (fun r_5 u_7 H locs hw_6 hP hS => ?_)
    refine hs_topi (hsb (hsin v 0 9)) hw_6 ?_
    refine lv_if_eq (tgt := 22) hx hb dX6_canWeigh_15 rfl (fun c_8 => ?_) (fun c_8 => ?_)
    · refine lv_iconst (v := 0) hx hb dX6_canWeigh_22 hki_0 ?_
      exact hs_zret hx hb hr hlocks hK hP hD hS () [0] rfl (hs_upnd rfl) dX6_canWeigh_23 rfl (by simp only [hsb_0, hsb_1] at c_4 c_8; simp [hsb, c_4, c_8])
    · refine lv_iconst (v := 1) hx hb dX6_canWeigh_18 hki_1 ?_
      refine lv_goto (tgt := 23) hx hb dX6_canWeigh_19 rfl ?_
      exact hs_zret hx hb hr hlocks hK hP hD hS () [0] rfl (hs_upnd rfl) dX6_canWeigh_23 rfl (by simp only [hsb_0, hsb_1] at c_4 c_8; simp [hsb, c_4, c_8])

set_option maxHeartbeats 4000000 in
set_option maxRecDepth 100000 in
theorem g_areTwo (l : Launch) (D : va_G) (k : Nat → ClassId) (sz : Nat) (h : Nat) (h_now : Nat) (h_trial : Nat) (h_images : Nat) (h_imageThere : Nat) (h_teller : Nat) (h_ranks : Nat) (h_court : Nat) (h_sheets : Nat) (h_lf : Int32) (h_lt : Int32) (n_a : Nat → Nat) (n_N : Nat → Nat) (n_J : Nat → Int32) (i : Int32) (v : Int32) (hN0 : thN n_N) : MI l yX7_areTwo wsX7_areTwo ({ frames := 2, cells := 0, slots := 0, locals := 43 }) D k [.ref h, .int i, .int v] [oq6 h h_now h_trial h_images h_imageThere h_teller h_ranks h_court h_sheets h_lf h_lt, oqT h_now n_a n_N n_J] sz (fun (r : Int32) (u : Unit) => r = hsb (hslt i (n_N 1) && hslt v (n_N 1) && !decide (i = v))) (fun (u : Unit) => [oq6 h h_now h_trial h_images h_imageThere h_teller h_ranks h_court h_sheets h_lf h_lt, oqT h_now n_a n_N n_J]) := by
  refine Met.ofW (cc := cX7_areTwo) (maxL := 3) (ret := (some .boolean)) hpn_X7 rfl ?_
  intro p e s m args below meth c s₁ B hml hv
  obtain ⟨rfl, hsz, hP, hK, hD0, hN⟩ := hv
  have hx := B.exec
  have hb := B.bytes
  have hr := B.returns
  have hlocks := B.notSynchronized
  have hts := atoms_spec (ws := wsX7_areTwo) B.pre
  have hown := findClass_of_methodNamed B.named
  have hown : s.vm.findClass RX7 = some m.cls := hown
  have hiX7 : ∀ w ∈ u_ws RX7 TX7 10, w ∈ wsX7_areTwo := fun w9 hw9 => List.mem_cons_of_mem _ (igX7 w9 hw9)
  have fl10 := hts (.fieldLink RX7 10 "HalfScales" "now" "LHalfScales$Thing;") (List.mem_cons_of_mem _ (hs_inG 1 215 rfl rfl))
  subst hsz
  have hD := hD0.self (sz := s.heap.size)
  generalize hAe : va_A [oq6 h h_now h_trial h_images h_imageThere h_teller h_ranks h_court h_sheets h_lf h_lt, oqT h_now n_a n_N n_J] s.heap.size = A at hD ⊢
  have hA : ∀ q : Nat, s.heap.size ≤ q → A q := fun q h => by rw [← hAe]; exact Or.inr h
  have hS : va_S A s.heap s.heap [] := va_S.rf
  have hl := lv_entry ([.ref h, .int i, .int v]) (n := 3) (Nat.le_of_ble_eq_true rfl)
  rw [lg_entry_eq]
  generalize (lg_sl ([.ref h, .int i, .int v]) ++ List.replicate (3 - (lg_sl ([.ref h, .int i, .int v])).length) Slot.unset).toArray = ls at hl ⊢
  have hl : lv_has ls 3 [(0, .ref h), (1, .int i), (2, .int v)] := hl
  have hP : va_P D vwCl [oq6 h h_now h_trial h_images h_imageThere h_teller h_ranks h_court h_sheets h_lf h_lt, oqT h_now n_a n_N n_J] s.heap := hP
  refine lv_aload_n hx hb dX7_areTwo_0 rfl (lv_at hl 0 rfl) ?_
  refine va_get (D := D) (ci := 6) (v := .ref h_now) (C := RX7) (T := TX7) (N := 10) hx hb hts hiX7 hown hK hP 0 rfl rfl 0 (Nat.le_of_ble_eq_true rfl) fl10 (fun _ h9 => h9) rfl dX7_areTwo_1 ?_
  refine lv_iload_n hx hb dX7_areTwo_4 rfl (lv_at hl 1 rfl) ?_
  refine hs_ciM (va_runV (As := [.int i]) (rest := []) ⟨hx, hb, hml, hown, hts⟩ (g_isPerson l D k _ h_now n_a n_N n_J i (by first | assumption | exact ⟨by first | omega | (dsimp; omega), by first | omega | (dsimp; omega), ⟨by first | omega | (dsimp; omega), by first | omega | (dsimp; omega)⟩, by first | omega | (dsimp; omega), by first | omega | (dsimp; omega)⟩)) (cwV 1 hts gX7_areTwo_X6_isPerson rfl rfl rfl ⟨rfl, hq_X6_isPerson⟩ ⟨Nat.le_of_ble_eq_true rfl, Nat.le_of_ble_eq_true rfl⟩) (hs_preV hK hN (hs_subP (w := [_]) hP [1] rfl) (hD.sub (ws' := [_]) [1] (hs_upnd rfl) rfl) (ci := 5) (q0 := 0) rfl rfl) rfl rfl hl.1 rfl (lv_room (Nat.le_of_ble_eq_true rfl)) dX7_areTwo_5 ⟨Nat.le_of_ble_eq_true rfl, Nat.le_of_ble_eq_true rfl⟩) hP hD hS hA [true, false] [_] [_] rfl [0] rfl [0] (fun u_3 => [_]) (fun _ => rfl) (hs_upnd rfl) [true, false] (fun u_3 => [_, _]) (fun _ => rfl) (fun r_1 u_3 H locs hw_2 hP hD hS => ?_)
  refine hs_topi (hsb (hslt i (n_N 1))) hw_2 ?_
  refine lv_if_eq (tgt := 31) hx hb dX7_areTwo_8 rfl (fun c_4 => ?_) (fun c_4 => ?_)
  · refine lv_iconst (v := 0) hx hb dX7_areTwo_31 hki_0 ?_
    exact hs_zret hx hb hr hlocks hK hP hD hS () [0, 1] rfl (hs_upnd rfl) dX7_areTwo_32 rfl (by simp only [hsb_0, hsb_1] at c_4; simp [hsb, c_4])
  · refine lv_aload_n hx hb dX7_areTwo_11 rfl (lv_at hl 0 rfl) ?_
    refine va_get (D := D) (ci := 6) (v := .ref h_now) (C := RX7) (T := TX7) (N := 10) hx hb hts hiX7 hown hK hP 0 rfl rfl 0 (Nat.le_of_ble_eq_true rfl) fl10 (fun _ h9 => h9) rfl dX7_areTwo_12 ?_
    refine lv_iload_n hx hb dX7_areTwo_15 rfl (lv_at hl 2 rfl) ?_
    refine hs_ciM (va_runV (As := [.int v]) (rest := []) ⟨hx, hb, hml, hown, hts⟩ (g_isPerson l D k _ h_now n_a n_N n_J v (by first | assumption | exact ⟨by first | omega | (dsimp; omega), by first | omega | (dsimp; omega), ⟨by first | omega | (dsimp; omega), by first | omega | (dsimp; omega)⟩, by first | omega | (dsimp; omega), by first | omega | (dsimp; omega)⟩)) (cwV 1 hts gX7_areTwo_X6_isPerson rfl rfl rfl ⟨rfl, hq_X6_isPerson⟩ ⟨Nat.le_of_ble_eq_true rfl, Nat.le_of_ble_eq_true rfl⟩) (hs_preV hK hN (hs_subP (w := [_]) hP [1] rfl) (hD.sub (ws' := [_]) [1] (hs_upnd rfl) rfl) (ci := 5) (q0 := 0) rfl rfl) rfl rfl hl.1 rfl (lv_room (Nat.le_of_ble_eq_true rfl)) dX7_areTwo_16 ⟨Nat.le_of_ble_eq_true rfl, Nat.le_of_ble_eq_true rfl⟩) hP hD hS hA [true, false] [_] [_] rfl [0] rfl [0] (fun u_7 => [_]) (fun _ => rfl) (hs_upnd rfl) [true, false] (fun u_7 => [_, _]) (fun _ => rfl) (fun r_5 u_7 H locs hw_6 hP hD hS => ?_)
    refine hs_topi (hsb (hslt v (n_N 1))) hw_6 ?_
    refine lv_if_eq (tgt := 31) hx hb dX7_areTwo_19 rfl (fun c_8 => ?_) (fun c_8 => ?_)
    · refine lv_iconst (v := 0) hx hb dX7_areTwo_31 hki_0 ?_
      exact hs_zret hx hb hr hlocks hK hP hD hS () [0, 1] rfl (hs_upnd rfl) dX7_areTwo_32 rfl (by simp only [hsb_0, hsb_1] at c_4 c_8; simp [hsb, c_4, c_8])
    · refine lv_iload_n hx hb dX7_areTwo_22 rfl (lv_at hl 1 rfl) ?_
      refine lv_iload_n hx hb dX7_areTwo_23 rfl (lv_at hl 2 rfl) ?_
      refine lv_icmp_eq (tgt := 31) hx hb dX7_areTwo_24 rfl (fun c_9 => ?_) (fun c_9 => ?_)
      · refine lv_iconst (v := 0) hx hb dX7_areTwo_31 hki_0 ?_
        exact hs_zret hx hb hr hlocks hK hP hD hS () [0, 1] rfl (hs_upnd rfl) dX7_areTwo_32 rfl (by simp only [hsb_0, hsb_1] at c_4 c_8; simp [hsb, c_4, c_8, c_9])
      · refine lv_iconst (v := 1) hx hb dX7_areTwo_27 hki_1 ?_
        refine lv_goto (tgt := 32) hx hb dX7_areTwo_28 rfl ?_
        exact hs_zret hx hb hr hlocks hK hP hD hS () [0, 1] rfl (hs_upnd rfl) dX7_areTwo_32 rfl (by simp only [hsb_0, hsb_1] at c_4 c_8; simp [hsb, c_4, c_8, c_9])

set_option maxHeartbeats 4000000 in
set_option maxRecDepth 100000 in
theorem gp_chosen (l : Launch) (D : va_G) (k : Nat → ClassId) (sz : Nat) (h : Nat) (h_now : Nat) (h_trial : Nat) (h_images : Nat) (h_imageThere : Nat) (h_teller : Nat) (h_ranks : Nat) (h_court : Nat) (h_sheets : Nat) (h_lf : Int32) (h_lt : Int32) (n_a : Nat → Nat) (n_N : Nat → Nat) (n_J : Nat → Int32) (n_F : Nat → Nat → Int32) (i : Int32) (v : Int32) (what : Int32) (hN0 : thN n_N) (hF : thF n_N n_F) (h2 : 2 ≤ n_N 0) : MI l yX7_chosen wsX7_chosen ({ frames := 3, cells := 0, slots := 0, locals := 75 }) D k [.ref h, .int i, .int v, .int what] [oq6 h h_now h_trial h_images h_imageThere h_teller h_ranks h_court h_sheets h_lf h_lt, oqT h_now n_a n_N n_J, oqF0 k n_a n_F, oqF1 k n_a n_F, oqF2 k n_a n_F, oqF3 k n_a n_F, oqF4 k n_a n_F, oqF5 k n_a n_F, oqF6 k n_a n_F] sz (fun (r : Int32) (u : Unit) => True) (fun (u : Unit) => [oq6 h h_now h_trial h_images h_imageThere h_teller h_ranks h_court h_sheets h_lf h_lt, oqT h_now n_a n_N n_J, oqF0 k n_a n_F, oqF1 k n_a n_F, oqF2 k n_a n_F, oqF3 k n_a n_F, oqF4 k n_a n_F, oqF5 k n_a n_F, oqF6 k n_a n_F]) := by
  refine Met.ofW (cc := cX7_chosen) (maxL := 6) (ret := (some .int)) hpn_X7 rfl ?_
  intro p e s m args below meth c s₁ B hml hv
  obtain ⟨rfl, hsz, hP, hK, hD0, hN⟩ := hv
  have hx := B.exec
  have hb := B.bytes
  have hr := B.returns
  have hlocks := B.notSynchronized
  have hts := atoms_spec (ws := wsX7_chosen) B.pre
  have hown := findClass_of_methodNamed B.named
  have hown : s.vm.findClass RX7 = some m.cls := hown
  have hiX7 : ∀ w ∈ u_ws RX7 TX7 10, w ∈ wsX7_chosen := fun w9 hw9 => List.mem_cons_of_mem _ (igX7 w9 hw9)
  have fl10 := hts (.fieldLink RX7 10 "HalfScales" "now" "LHalfScales$Thing;") (List.mem_cons_of_mem _ (hs_inG 1 215 rfl rfl))
  have hNn := hN0
  obtain ⟨I0, I1, ⟨I2, I2b⟩, I3, I4⟩ := hN0
  subst hsz
  have hD := hD0.self (sz := s.heap.size)
  generalize hAe : va_A [oq6 h h_now h_trial h_images h_imageThere h_teller h_ranks h_court h_sheets h_lf h_lt, oqT h_now n_a n_N n_J, oqF0 k n_a n_F, oqF1 k n_a n_F, oqF2 k n_a n_F, oqF3 k n_a n_F, oqF4 k n_a n_F, oqF5 k n_a n_F, oqF6 k n_a n_F] s.heap.size = A at hD ⊢
  have hA : ∀ q : Nat, s.heap.size ≤ q → A q := fun q h => by rw [← hAe]; exact Or.inr h
  have hS : va_S A s.heap s.heap [] := va_S.rf
  have hl := lv_entry ([.ref h, .int i, .int v, .int what]) (n := 6) (Nat.le_of_ble_eq_true rfl)
  rw [lg_entry_eq]
  generalize (lg_sl ([.ref h, .int i, .int v, .int what]) ++ List.replicate (6 - (lg_sl ([.ref h, .int i, .int v, .int what])).length) Slot.unset).toArray = ls at hl ⊢
  have hl : lv_has ls 6 [(0, .ref h), (1, .int i), (2, .int v), (3, .int what)] := hl
  have hP : va_P D vwCl [oq6 h h_now h_trial h_images h_imageThere h_teller h_ranks h_court h_sheets h_lf h_lt, oqT h_now n_a n_N n_J, oqF0 k n_a n_F, oqF1 k n_a n_F, oqF2 k n_a n_F, oqF3 k n_a n_F, oqF4 k n_a n_F, oqF5 k n_a n_F, oqF6 k n_a n_F] s.heap := hP
  refine lv_aload_n hx hb dX7_chosen_0 rfl (lv_at hl 0 rfl) ?_
  refine lv_iload_n hx hb dX7_chosen_1 rfl (lv_at hl 1 rfl) ?_
  refine lv_iload_n hx hb dX7_chosen_2 rfl (lv_at hl 2 rfl) ?_
  refine hs_ciM (va_runV (As := [.int i, .int v]) (rest := []) ⟨hx, hb, hml, hown, hts⟩ (g_areTwo l D k _ h h_now h_trial h_images h_imageThere h_teller h_ranks h_court h_sheets h_lf h_lt n_a n_N n_J i v (by first | assumption | exact ⟨by first | omega | (dsimp; omega), by first | omega | (dsimp; omega), ⟨by first | omega | (dsimp; omega), by first | omega | (dsimp; omega)⟩, by first | omega | (dsimp; omega), by first | omega | (dsimp; omega)⟩)) (cwV 2 hts gX7_chosen_X7_areTwo rfl rfl rfl ⟨rfl, hq_X7_areTwo⟩ ⟨Nat.le_of_ble_eq_true rfl, Nat.le_of_ble_eq_true rfl⟩) (hs_preV hK hN (hs_subP (w := [_, _]) hP [0, 1] rfl) (hD.sub (ws' := [_, _]) [0, 1] (hs_upnd rfl) rfl) (ci := 6) (q0 := 0) rfl rfl) rfl rfl hl.1 rfl (lv_room (Nat.le_of_ble_eq_true rfl)) dX7_chosen_3 ⟨Nat.le_of_ble_eq_true rfl, Nat.le_of_ble_eq_true rfl⟩) hP hD hS hA [false, false, true, true, true, true, true, true, true] [_, _, _, _, _, _, _] [_, _] rfl [0, 1] rfl [0, 1] (fun u_3 => [_, _]) (fun _ => rfl) (hs_upnd rfl) [false, false, true, true, true, true, true, true, true] (fun u_3 => [_, _, _, _, _, _, _, _, _]) (fun _ => rfl) (fun r_1 u_3 H locs hw_2 hP hD hS => ?_)
  refine hs_topi (hsb (hslt i (n_N 1) && hslt v (n_N 1) && !decide (i = v))) hw_2 ?_
  refine lv_if_eq (tgt := 18) hx hb dX7_chosen_6 rfl (fun c_4 => ?_) (fun c_4 => ?_)
  · refine lv_iconst (v := (-1)) hx hb dX7_chosen_18 hki_m1 ?_
    exact hs_iret hx hb hr hlocks hK hP hD hS () [0, 1, 2, 3, 4, 5, 6, 7, 8] rfl (hs_upnd rfl) dX7_chosen_19 (trivial)
  · refine lv_iload_n hx hb dX7_chosen_9 rfl (lv_at hl 3 rfl) ?_
    refine lv_iconst (v := 0) hx hb dX7_chosen_10 hki_0 ?_
    refine lv_iconst (v := 2) hx hb dX7_chosen_11 hki_2 ?_
    refine hs_pi (va_runS (As := [.int what, .int 0, .int 2]) (rest := []) ⟨hx, hb, hml, hown, hts⟩ (g_within l D k _ what 0 2) (va_cwS 3 hts gX7_chosen_X7_within rfl rfl rfl hq_X7_within ⟨Nat.le_of_ble_eq_true rfl, Nat.le_of_ble_eq_true rfl⟩) (hs_preS hK hN (hs_subP (w := []) hP [] rfl) (hD.sub (ws' := []) [] rfl rfl)) rfl rfl hl.1 rfl (lv_room (Nat.le_of_ble_eq_true rfl)) dX7_chosen_12 ⟨Nat.le_of_ble_eq_true rfl, Nat.le_of_ble_eq_true rfl⟩) hP hD hS hA (fun r_5 u_7 H locs hw_6 hP hS => ?_)
    refine hs_topi (hsb (hsin what 0 2)) hw_6 ?_
    refine lv_if_ne (tgt := 20) hx hb dX7_chosen_15 rfl (fun c_8 => ?_) (fun c_8 => ?_)
    · obtain ⟨j1, hj1, rfl⟩ := hslt_ex (hs_and1 (hs_and1 (hs_nb c_4)))
      obtain ⟨j2, hj2, rfl⟩ := hslt_ex (hs_and2 (hs_and1 (hs_nb c_4)))
      refine lv_aload_n hx hb dX7_chosen_20 rfl (lv_at hl 0 rfl) ?_
      refine va_get (D := D) (ci := 6) (v := .ref h_now) (C := RX7) (T := TX7) (N := 10) hx hb hts hiX7 hown hK hP 0 rfl rfl 0 (Nat.le_of_ble_eq_true rfl) fl10 (fun _ h9 => h9) rfl dX7_chosen_21 ?_
      refine lv_iload_n hx hb dX7_chosen_24 rfl (lv_at hl 2 rfl) ?_
      refine lv_aload_n hx hb dX7_chosen_25 rfl (lv_at hl 0 rfl) ?_
      refine va_get (D := D) (ci := 6) (v := .ref h_now) (C := RX7) (T := TX7) (N := 10) hx hb hts hiX7 hown hK hP 0 rfl rfl 0 (Nat.le_of_ble_eq_true rfl) fl10 (fun _ h9 => h9) rfl dX7_chosen_26 ?_
      refine lv_iload_n hx hb dX7_chosen_29 rfl (lv_at hl 1 rfl) ?_
      refine hs_ciM (va_runS (As := [.ref h_now, .int (nI j1)]) (rest := [.int (nI j2), .ref h_now]) ⟨hx, hb, hml, hown, hts⟩ (g_honestCut l D k _ h_now n_a n_N n_J n_F j1 (by first | assumption | exact ⟨by first | omega | (dsimp; omega), by first | omega | (dsimp; omega), ⟨by first | omega | (dsimp; omega), by first | omega | (dsimp; omega)⟩, by first | omega | (dsimp; omega), by first | omega | (dsimp; omega)⟩) (by omega)) (va_cwS 2 hts gX7_chosen_X1_honestCut rfl rfl rfl hq_X1_honestCut ⟨Nat.le_of_ble_eq_true rfl, Nat.le_of_ble_eq_true rfl⟩) (hs_preS hK hN (hs_subP (w := [_, _, _, _, _, _, _, _]) hP [1, 2, 3, 4, 5, 6, 7, 8] rfl) (hD.sub (ws' := [_, _, _, _, _, _, _, _]) [1, 2, 3, 4, 5, 6, 7, 8] (hs_upnd rfl) rfl)) rfl rfl hl.1 rfl (lv_room (Nat.le_of_ble_eq_true rfl)) dX7_chosen_30 ⟨Nat.le_of_ble_eq_true rfl, Nat.le_of_ble_eq_true rfl⟩) hP hD hS hA [true, false, false, false, false, false, false, false, false] [_] [_, _, _, _, _, _, _, _] rfl [0, 1, 2, 3, 4, 5, 6, 7] rfl [0, 1, 2, 3, 4, 5, 6, 7] (fun u_11 => [_, _, _, _, _, _, _, _]) (fun _ => rfl) (hs_upnd rfl) [true, false, false, false, false, false, false, false, false] (fun u_11 => [_, _, _, _, _, _, _, _, _]) (fun _ => rfl) (fun r_9 u_11 H locs hw_10 hP hD hS => ?_)
      refine hs_ciM (va_runS (As := [.ref h_now, .int (nI j2), .int r_9]) (rest := []) ⟨hx, hb, hml, hown, hts⟩ (g_choice l D k _ h_now n_a n_N n_J n_F j2 r_9 (by first | assumption | exact ⟨by first | omega | (dsimp; omega), by first | omega | (dsimp; omega), ⟨by first | omega | (dsimp; omega), by first | omega | (dsimp; omega)⟩, by first | omega | (dsimp; omega), by first | omega | (dsimp; omega)⟩) (by omega)) (va_cwS 3 hts gX7_chosen_X1_choice rfl rfl rfl hq_X1_choice ⟨Nat.le_of_ble_eq_true rfl, Nat.le_of_ble_eq_true rfl⟩) (hs_preS hK hN (hs_subP (w := [_, _, _, _, _, _, _, _]) hP [1, 2, 3, 4, 5, 6, 7, 8] rfl) (hD.sub (ws' := [_, _, _, _, _, _, _, _]) [1, 2, 3, 4, 5, 6, 7, 8] (hs_upnd rfl) rfl)) rfl rfl hl.1 rfl (lv_room (Nat.le_of_ble_eq_true rfl)) dX7_chosen_33 ⟨Nat.le_of_ble_eq_true rfl, Nat.le_of_ble_eq_true rfl⟩) hP hD hS hA [true, false, false, false, false, false, false, false, false] [_] [_, _, _, _, _, _, _, _] rfl [0, 1, 2, 3, 4, 5, 6, 7] rfl [0, 1, 2, 3, 4, 5, 6, 7] (fun u_14 => [_, _, _, _, _, _, _, _]) (fun _ => rfl) (hs_upnd rfl) [true, false, false, false, false, false, false, false, false] (fun u_14 => [_, _, _, _, _, _, _, _, _]) (fun _ => rfl) (fun r_12 u_14 H locs hw_13 hP hD hS => ?_)
      refine lv_istore (lv' := [(4, .int r_12), (0, .ref h), (1, .int (nI j1)), (2, .int (nI j2)), (3, .int what)]) hx hb dX7_chosen_36 hl (Nat.le_of_ble_eq_true rfl) rfl (fun ls hl => ?_)
      refine lv_aload_n hx hb dX7_chosen_38 rfl (lv_at hl 1 rfl) ?_
      refine va_get (D := D) (ci := 6) (v := .ref h_now) (C := RX7) (T := TX7) (N := 10) hx hb hts hiX7 hown hK hP 0 rfl rfl 0 (Nat.le_of_ble_eq_true rfl) fl10 (fun _ h9 => h9) rfl dX7_chosen_39 ?_
      refine hs_ciM (va_runV (As := []) (rest := []) ⟨hx, hb, hml, hown, hts⟩ (g_allCells l D k _ h_now n_a n_N n_J (by first | assumption | exact ⟨by first | omega | (dsimp; omega), by first | omega | (dsimp; omega), ⟨by first | omega | (dsimp; omega), by first | omega | (dsimp; omega)⟩, by first | omega | (dsimp; omega), by first | omega | (dsimp; omega)⟩)) (cwV 0 hts gX7_chosen_X6_allCells rfl rfl rfl ⟨rfl, hq_X6_allCells⟩ ⟨Nat.le_of_ble_eq_true rfl, Nat.le_of_ble_eq_true rfl⟩) (hs_preV hK hN (hs_subP (w := [_]) hP [1] rfl) (hD.sub (ws' := [_]) [1] (hs_upnd rfl) rfl) (ci := 5) (q0 := 0) rfl rfl) rfl rfl hl.1 rfl (lv_room (Nat.le_of_ble_eq_true rfl)) dX7_chosen_42 ⟨Nat.le_of_ble_eq_true rfl, Nat.le_of_ble_eq_true rfl⟩) hP hD hS hA [true, false, true, true, true, true, true, true, true] [_, _, _, _, _, _, _, _] [_] rfl [0] rfl [0] (fun u_17 => [_]) (fun _ => rfl) (hs_upnd rfl) [true, false, true, true, true, true, true, true, true] (fun u_17 => [_, _, _, _, _, _, _, _, _]) (fun _ => rfl) (fun r_15 u_17 H locs hw_16 hP hD hS => ?_)
      refine hs_topi (nI (2 ^ (n_N 0) - 1)) hw_16 ?_
      refine lv_iload hx hb dX7_chosen_45 (lv_at hl 0 rfl) ?_
      refine lv_iconst (v := (-1)) hx hb dX7_chosen_47 hki_m1 ?_
      refine lv_ixor hx hb dX7_chosen_48 ?_
      refine lv_iand hx hb dX7_chosen_49 ?_
      refine lv_istore (lv' := [(5, .int ((nI (2 ^ (n_N 0) - 1)) &&& (r_12 ^^^ (-1)))), (4, .int r_12), (0, .ref h), (1, .int (nI j1)), (2, .int (nI j2)), (3, .int what)]) hx hb dX7_chosen_50 hl (Nat.le_of_ble_eq_true rfl) rfl (fun ls hl => ?_)
      refine lv_iload_n hx hb dX7_chosen_52 rfl (lv_at hl 5 rfl) ?_
      refine lv_if_ne (tgt := 67) hx hb dX7_chosen_53 rfl (fun c_18 => ?_) (fun c_18 => ?_)
      · refine lv_iload_n hx hb dX7_chosen_67 rfl (lv_at hl 5 rfl) ?_
        refine lv_iconst (v := 1) hx hb dX7_chosen_68 hki_1 ?_
        refine lv_icmp_ne (tgt := 83) hx hb dX7_chosen_69 rfl (fun c_19 => ?_) (fun c_19 => ?_)
        · refine lv_aload_n hx hb dX7_chosen_83 rfl (lv_at hl 2 rfl) ?_
          refine va_get (D := D) (ci := 6) (v := .ref h_now) (C := RX7) (T := TX7) (N := 10) hx hb hts hiX7 hown hK hP 0 rfl rfl 0 (Nat.le_of_ble_eq_true rfl) fl10 (fun _ h9 => h9) rfl dX7_chosen_84 ?_
          refine lv_iload_n hx hb dX7_chosen_87 rfl (lv_at hl 3 rfl) ?_
          refine lv_iload hx hb dX7_chosen_88 (lv_at hl 1 rfl) ?_
          refine hs_ciM (va_runV (As := [.int (nI j1), .int r_12]) (rest := []) ⟨hx, hb, hml, hown, hts⟩ (g_worthOf l D k _ h_now n_a n_N n_J n_F j1 r_12 (by first | assumption | exact ⟨by first | omega | (dsimp; omega), by first | omega | (dsimp; omega), ⟨by first | omega | (dsimp; omega), by first | omega | (dsimp; omega)⟩, by first | omega | (dsimp; omega), by first | omega | (dsimp; omega)⟩) (by omega)) (cwV 2 hts gX7_chosen_X6_worthOf rfl rfl rfl ⟨rfl, hq_X6_worthOf⟩ ⟨Nat.le_of_ble_eq_true rfl, Nat.le_of_ble_eq_true rfl⟩) (hs_preV hK hN (hs_subP (w := [_, _, _, _, _, _, _, _]) hP [1, 2, 3, 4, 5, 6, 7, 8] rfl) (hD.sub (ws' := [_, _, _, _, _, _, _, _]) [1, 2, 3, 4, 5, 6, 7, 8] (hs_upnd rfl) rfl) (ci := 5) (q0 := 0) rfl rfl) rfl rfl hl.1 rfl (lv_room (Nat.le_of_ble_eq_true rfl)) dX7_chosen_90 ⟨Nat.le_of_ble_eq_true rfl, Nat.le_of_ble_eq_true rfl⟩) hP hD hS hA [true, false, false, false, false, false, false, false, false] [_] [_, _, _, _, _, _, _, _] rfl [0, 1, 2, 3, 4, 5, 6, 7] rfl [0, 1, 2, 3, 4, 5, 6, 7] (fun u_22 => [_, _, _, _, _, _, _, _]) (fun _ => rfl) (hs_upnd rfl) [true, false, false, false, false, false, false, false, false] (fun u_22 => [_, _, _, _, _, _, _, _, _]) (fun _ => rfl) (fun r_20 u_22 H locs hw_21 hP hD hS => ?_)
          refine lv_aload_n hx hb dX7_chosen_93 rfl (lv_at hl 2 rfl) ?_
          refine va_get (D := D) (ci := 6) (v := .ref h_now) (C := RX7) (T := TX7) (N := 10) hx hb hts hiX7 hown hK hP 0 rfl rfl 0 (Nat.le_of_ble_eq_true rfl) fl10 (fun _ h9 => h9) rfl dX7_chosen_94 ?_
          refine lv_iload_n hx hb dX7_chosen_97 rfl (lv_at hl 3 rfl) ?_
          refine lv_iload hx hb dX7_chosen_98 (lv_at hl 0 rfl) ?_
          refine hs_ciM (va_runV (As := [.int (nI j1), .int ((nI (2 ^ (n_N 0) - 1)) &&& (r_12 ^^^ (-1)))]) (rest := [.int r_20]) ⟨hx, hb, hml, hown, hts⟩ (g_worthOf l D k _ h_now n_a n_N n_J n_F j1 ((nI (2 ^ (n_N 0) - 1)) &&& (r_12 ^^^ (-1))) (by first | assumption | exact ⟨by first | omega | (dsimp; omega), by first | omega | (dsimp; omega), ⟨by first | omega | (dsimp; omega), by first | omega | (dsimp; omega)⟩, by first | omega | (dsimp; omega), by first | omega | (dsimp; omega)⟩) (by omega)) (cwV 2 hts gX7_chosen_X6_worthOf rfl rfl rfl ⟨rfl, hq_X6_worthOf⟩ ⟨Nat.le_of_ble_eq_true rfl, Nat.le_of_ble_eq_true rfl⟩) (hs_preV hK hN (hs_subP (w := [_, _, _, _, _, _, _, _]) hP [1, 2, 3, 4, 5, 6, 7, 8] rfl) (hD.sub (ws' := [_, _, _, _, _, _, _, _]) [1, 2, 3, 4, 5, 6, 7, 8] (hs_upnd rfl) rfl) (ci := 5) (q0 := 0) rfl rfl) rfl rfl hl.1 rfl (lv_room (Nat.le_of_ble_eq_true rfl)) dX7_chosen_100 ⟨Nat.le_of_ble_eq_true rfl, Nat.le_of_ble_eq_true rfl⟩) hP hD hS hA [true, false, false, false, false, false, false, false, false] [_] [_, _, _, _, _, _, _, _] rfl [0, 1, 2, 3, 4, 5, 6, 7] rfl [0, 1, 2, 3, 4, 5, 6, 7] (fun u_25 => [_, _, _, _, _, _, _, _]) (fun _ => rfl) (hs_upnd rfl) [true, false, false, false, false, false, false, false, false] (fun u_25 => [_, _, _, _, _, _, _, _, _]) (fun _ => rfl) (fun r_23 u_25 H locs hw_24 hP hD hS => ?_)
          refine lv_icmp_le (tgt := 110) hx hb dX7_chosen_103 rfl (fun c_26 => ?_) (fun c_26 => ?_)
          · refine lv_iconst (v := 0) hx hb dX7_chosen_110 hki_0 ?_
            exact hs_iret hx hb hr hlocks hK hP hD hS () [0, 1, 2, 3, 4, 5, 6, 7, 8] rfl (hs_upnd rfl) dX7_chosen_111 (trivial)
          · refine lv_iconst (v := 1) hx hb dX7_chosen_106 hki_1 ?_
            refine lv_goto (tgt := 111) hx hb dX7_chosen_107 rfl ?_
            exact hs_iret hx hb hr hlocks hK hP hD hS () [0, 1, 2, 3, 4, 5, 6, 7, 8] rfl (hs_upnd rfl) dX7_chosen_111 (trivial)
        · refine lv_aload_n hx hb dX7_chosen_72 rfl (lv_at hl 2 rfl) ?_
          refine va_get (D := D) (ci := 6) (v := .ref h_now) (C := RX7) (T := TX7) (N := 10) hx hb hts hiX7 hown hK hP 0 rfl rfl 0 (Nat.le_of_ble_eq_true rfl) fl10 (fun _ h9 => h9) rfl dX7_chosen_73 ?_
          refine lv_iload_n hx hb dX7_chosen_76 rfl (lv_at hl 4 rfl) ?_
          refine lv_iload hx hb dX7_chosen_77 (lv_at hl 1 rfl) ?_
          refine hs_ciM (va_runV (As := [.int (nI j2), .int r_12]) (rest := []) ⟨hx, hb, hml, hown, hts⟩ (g_worthOf l D k _ h_now n_a n_N n_J n_F j2 r_12 (by first | assumption | exact ⟨by first | omega | (dsimp; omega), by first | omega | (dsimp; omega), ⟨by first | omega | (dsimp; omega), by first | omega | (dsimp; omega)⟩, by first | omega | (dsimp; omega), by first | omega | (dsimp; omega)⟩) (by omega)) (cwV 2 hts gX7_chosen_X6_worthOf rfl rfl rfl ⟨rfl, hq_X6_worthOf⟩ ⟨Nat.le_of_ble_eq_true rfl, Nat.le_of_ble_eq_true rfl⟩) (hs_preV hK hN (hs_subP (w := [_, _, _, _, _, _, _, _]) hP [1, 2, 3, 4, 5, 6, 7, 8] rfl) (hD.sub (ws' := [_, _, _, _, _, _, _, _]) [1, 2, 3, 4, 5, 6, 7, 8] (hs_upnd rfl) rfl) (ci := 5) (q0 := 0) rfl rfl) rfl rfl hl.1 rfl (lv_room (Nat.le_of_ble_eq_true rfl)) dX7_chosen_79 ⟨Nat.le_of_ble_eq_true rfl, Nat.le_of_ble_eq_true rfl⟩) hP hD hS hA [true, false, false, false, false, false, false, false, false] [_] [_, _, _, _, _, _, _, _] rfl [0, 1, 2, 3, 4, 5, 6, 7] rfl [0, 1, 2, 3, 4, 5, 6, 7] (fun u_29 => [_, _, _, _, _, _, _, _]) (fun _ => rfl) (hs_upnd rfl) [true, false, false, false, false, false, false, false, false] (fun u_29 => [_, _, _, _, _, _, _, _, _]) (fun _ => rfl) (fun r_27 u_29 H locs hw_28 hP hD hS => ?_)
          exact hs_iret hx hb hr hlocks hK hP hD hS () [0, 1, 2, 3, 4, 5, 6, 7, 8] rfl (hs_upnd rfl) dX7_chosen_82 (trivial)
      · refine lv_aload_n hx hb dX7_chosen_56 rfl (lv_at hl 2 rfl) ?_
        refine va_get (D := D) (ci := 6) (v := .ref h_now) (C := RX7) (T := TX7) (N := 10) hx hb hts hiX7 hown hK hP 0 rfl rfl 0 (Nat.le_of_ble_eq_true rfl) fl10 (fun _ h9 => h9) rfl dX7_chosen_57 ?_
        refine lv_iload_n hx hb dX7_chosen_60 rfl (lv_at hl 3 rfl) ?_
        refine lv_iload hx hb dX7_chosen_61 (lv_at hl 0 rfl) ?_
        refine hs_ciM (va_runV (As := [.int (nI j1), .int ((nI (2 ^ (n_N 0) - 1)) &&& (r_12 ^^^ (-1)))]) (rest := []) ⟨hx, hb, hml, hown, hts⟩ (g_worthOf l D k _ h_now n_a n_N n_J n_F j1 ((nI (2 ^ (n_N 0) - 1)) &&& (r_12 ^^^ (-1))) (by first | assumption | exact ⟨by first | omega | (dsimp; omega), by first | omega | (dsimp; omega), ⟨by first | omega | (dsimp; omega), by first | omega | (dsimp; omega)⟩, by first | omega | (dsimp; omega), by first | omega | (dsimp; omega)⟩) (by omega)) (cwV 2 hts gX7_chosen_X6_worthOf rfl rfl rfl ⟨rfl, hq_X6_worthOf⟩ ⟨Nat.le_of_ble_eq_true rfl, Nat.le_of_ble_eq_true rfl⟩) (hs_preV hK hN (hs_subP (w := [_, _, _, _, _, _, _, _]) hP [1, 2, 3, 4, 5, 6, 7, 8] rfl) (hD.sub (ws' := [_, _, _, _, _, _, _, _]) [1, 2, 3, 4, 5, 6, 7, 8] (hs_upnd rfl) rfl) (ci := 5) (q0 := 0) rfl rfl) rfl rfl hl.1 rfl (lv_room (Nat.le_of_ble_eq_true rfl)) dX7_chosen_63 ⟨Nat.le_of_ble_eq_true rfl, Nat.le_of_ble_eq_true rfl⟩) hP hD hS hA [true, false, false, false, false, false, false, false, false] [_] [_, _, _, _, _, _, _, _] rfl [0, 1, 2, 3, 4, 5, 6, 7] rfl [0, 1, 2, 3, 4, 5, 6, 7] (fun u_32 => [_, _, _, _, _, _, _, _]) (fun _ => rfl) (hs_upnd rfl) [true, false, false, false, false, false, false, false, false] (fun u_32 => [_, _, _, _, _, _, _, _, _]) (fun _ => rfl) (fun r_30 u_32 H locs hw_31 hP hD hS => ?_)
        exact hs_iret hx hb hr hlocks hK hP hD hS () [0, 1, 2, 3, 4, 5, 6, 7, 8] rfl (hs_upnd rfl) dX7_chosen_66 (trivial)
    · refine lv_iconst (v := (-1)) hx hb dX7_chosen_18 hki_m1 ?_
      exact hs_iret hx hb hr hlocks hK hP hD hS () [0, 1, 2, 3, 4, 5, 6, 7, 8] rfl (hs_upnd rfl) dX7_chosen_19 (trivial)

set_option maxHeartbeats 4000000 in
set_option maxRecDepth 100000 in
theorem gp_sly (l : Launch) (D : va_G) (k : Nat → ClassId) (sz : Nat) (h : Nat) (h_now : Nat) (h_trial : Nat) (h_images : Nat) (h_imageThere : Nat) (h_teller : Nat) (h_ranks : Nat) (h_court : Nat) (h_sheets : Nat) (h_lf : Int32) (h_lt : Int32) (n_a : Nat → Nat) (n_N : Nat → Nat) (n_J : Nat → Int32) (n_F : Nat → Nat → Int32) (i : Int32) (v : Int32) (what : Int32) (hN0 : thN n_N) (hF : thF n_N n_F) (h2 : 2 ≤ n_N 0) : MI l yX7_sly wsX7_sly ({ frames := 5, cells := 0, slots := 0, locals := 122 }) D k [.ref h, .int i, .int v, .int what] [oq6 h h_now h_trial h_images h_imageThere h_teller h_ranks h_court h_sheets h_lf h_lt, oqT h_now n_a n_N n_J, oqF0 k n_a n_F, oqF1 k n_a n_F, oqF2 k n_a n_F, oqF3 k n_a n_F, oqF4 k n_a n_F, oqF5 k n_a n_F, oqF6 k n_a n_F] sz (fun (r : Int32) (u : Unit) => True) (fun (u : Unit) => [oq6 h h_now h_trial h_images h_imageThere h_teller h_ranks h_court h_sheets h_lf h_lt, oqT h_now n_a n_N n_J, oqF0 k n_a n_F, oqF1 k n_a n_F, oqF2 k n_a n_F, oqF3 k n_a n_F, oqF4 k n_a n_F, oqF5 k n_a n_F, oqF6 k n_a n_F]) := by
  refine Met.ofW (cc := cX7_sly) (maxL := 5) (ret := (some .int)) hpn_X7 rfl ?_
  intro p e s m args below meth c s₁ B hml hv
  obtain ⟨rfl, hsz, hP, hK, hD0, hN⟩ := hv
  have hx := B.exec
  have hb := B.bytes
  have hr := B.returns
  have hlocks := B.notSynchronized
  have hts := atoms_spec (ws := wsX7_sly) B.pre
  have hown := findClass_of_methodNamed B.named
  have hown : s.vm.findClass RX7 = some m.cls := hown
  have hiX7 : ∀ w ∈ u_ws RX7 TX7 10, w ∈ wsX7_sly := fun w9 hw9 => List.mem_cons_of_mem _ (igX7 w9 hw9)
  have fl10 := hts (.fieldLink RX7 10 "HalfScales" "now" "LHalfScales$Thing;") (List.mem_cons_of_mem _ (hs_inG 1 215 rfl rfl))
  have hNn := hN0
  obtain ⟨I0, I1, ⟨I2, I2b⟩, I3, I4⟩ := hN0
  subst hsz
  have hD := hD0.self (sz := s.heap.size)
  generalize hAe : va_A [oq6 h h_now h_trial h_images h_imageThere h_teller h_ranks h_court h_sheets h_lf h_lt, oqT h_now n_a n_N n_J, oqF0 k n_a n_F, oqF1 k n_a n_F, oqF2 k n_a n_F, oqF3 k n_a n_F, oqF4 k n_a n_F, oqF5 k n_a n_F, oqF6 k n_a n_F] s.heap.size = A at hD ⊢
  have hA : ∀ q : Nat, s.heap.size ≤ q → A q := fun q h => by rw [← hAe]; exact Or.inr h
  have hS : va_S A s.heap s.heap [] := va_S.rf
  have hl := lv_entry ([.ref h, .int i, .int v, .int what]) (n := 5) (Nat.le_of_ble_eq_true rfl)
  rw [lg_entry_eq]
  generalize (lg_sl ([.ref h, .int i, .int v, .int what]) ++ List.replicate (5 - (lg_sl ([.ref h, .int i, .int v, .int what])).length) Slot.unset).toArray = ls at hl ⊢
  have hl : lv_has ls 5 [(0, .ref h), (1, .int i), (2, .int v), (3, .int what)] := hl
  have hP : va_P D vwCl [oq6 h h_now h_trial h_images h_imageThere h_teller h_ranks h_court h_sheets h_lf h_lt, oqT h_now n_a n_N n_J, oqF0 k n_a n_F, oqF1 k n_a n_F, oqF2 k n_a n_F, oqF3 k n_a n_F, oqF4 k n_a n_F, oqF5 k n_a n_F, oqF6 k n_a n_F] s.heap := hP
  refine lv_aload_n hx hb dX7_sly_0 rfl (lv_at hl 0 rfl) ?_
  refine lv_iload_n hx hb dX7_sly_1 rfl (lv_at hl 1 rfl) ?_
  refine lv_iload_n hx hb dX7_sly_2 rfl (lv_at hl 2 rfl) ?_
  refine hs_ciM (va_runV (As := [.int i, .int v]) (rest := []) ⟨hx, hb, hml, hown, hts⟩ (g_areTwo l D k _ h h_now h_trial h_images h_imageThere h_teller h_ranks h_court h_sheets h_lf h_lt n_a n_N n_J i v (by first | assumption | exact ⟨by first | omega | (dsimp; omega), by first | omega | (dsimp; omega), ⟨by first | omega | (dsimp; omega), by first | omega | (dsimp; omega)⟩, by first | omega | (dsimp; omega), by first | omega | (dsimp; omega)⟩)) (cwV 2 hts gX7_sly_X7_areTwo rfl rfl rfl ⟨rfl, hq_X7_areTwo⟩ ⟨Nat.le_of_ble_eq_true rfl, Nat.le_of_ble_eq_true rfl⟩) (hs_preV hK hN (hs_subP (w := [_, _]) hP [0, 1] rfl) (hD.sub (ws' := [_, _]) [0, 1] (hs_upnd rfl) rfl) (ci := 6) (q0 := 0) rfl rfl) rfl rfl hl.1 rfl (lv_room (Nat.le_of_ble_eq_true rfl)) dX7_sly_3 ⟨Nat.le_of_ble_eq_true rfl, Nat.le_of_ble_eq_true rfl⟩) hP hD hS hA [false, false, true, true, true, true, true, true, true] [_, _, _, _, _, _, _] [_, _] rfl [0, 1] rfl [0, 1] (fun u_3 => [_, _]) (fun _ => rfl) (hs_upnd rfl) [false, false, true, true, true, true, true, true, true] (fun u_3 => [_, _, _, _, _, _, _, _, _]) (fun _ => rfl) (fun r_1 u_3 H locs hw_2 hP hD hS => ?_)
  refine hs_topi (hsb (hslt i (n_N 1) && hslt v (n_N 1) && !decide (i = v))) hw_2 ?_
  refine lv_if_eq (tgt := 18) hx hb dX7_sly_6 rfl (fun c_4 => ?_) (fun c_4 => ?_)
  · refine lv_iconst (v := (-1)) hx hb dX7_sly_18 hki_m1 ?_
    exact hs_iret hx hb hr hlocks hK hP hD hS () [0, 1, 2, 3, 4, 5, 6, 7, 8] rfl (hs_upnd rfl) dX7_sly_19 (trivial)
  · refine lv_iload_n hx hb dX7_sly_9 rfl (lv_at hl 3 rfl) ?_
    refine lv_iconst (v := 0) hx hb dX7_sly_10 hki_0 ?_
    refine lv_iconst (v := 1) hx hb dX7_sly_11 hki_1 ?_
    refine hs_pi (va_runS (As := [.int what, .int 0, .int 1]) (rest := []) ⟨hx, hb, hml, hown, hts⟩ (g_within l D k _ what 0 1) (va_cwS 3 hts gX7_sly_X7_within rfl rfl rfl hq_X7_within ⟨Nat.le_of_ble_eq_true rfl, Nat.le_of_ble_eq_true rfl⟩) (hs_preS hK hN (hs_subP (w := []) hP [] rfl) (hD.sub (ws' := []) [] rfl rfl)) rfl rfl hl.1 rfl (lv_room (Nat.le_of_ble_eq_true rfl)) dX7_sly_12 ⟨Nat.le_of_ble_eq_true rfl, Nat.le_of_ble_eq_true rfl⟩) hP hD hS hA (fun r_5 u_7 H locs hw_6 hP hS => ?_)
    refine hs_topi (hsb (hsin what 0 1)) hw_6 ?_
    refine lv_if_ne (tgt := 20) hx hb dX7_sly_15 rfl (fun c_8 => ?_) (fun c_8 => ?_)
    · obtain ⟨j1, hj1, rfl⟩ := hslt_ex (hs_and1 (hs_and1 (hs_nb c_4)))
      obtain ⟨j2, hj2, rfl⟩ := hslt_ex (hs_and2 (hs_and1 (hs_nb c_4)))
      refine lv_aload_n hx hb dX7_sly_20 rfl (lv_at hl 0 rfl) ?_
      refine va_get (D := D) (ci := 6) (v := .ref h_now) (C := RX7) (T := TX7) (N := 10) hx hb hts hiX7 hown hK hP 0 rfl rfl 0 (Nat.le_of_ble_eq_true rfl) fl10 (fun _ h9 => h9) rfl dX7_sly_21 ?_
      refine lv_iload_n hx hb dX7_sly_24 rfl (lv_at hl 1 rfl) ?_
      refine lv_iload_n hx hb dX7_sly_25 rfl (lv_at hl 2 rfl) ?_
      refine hs_ciM (va_runS (As := [.ref h_now, .int (nI j1), .int (nI j2)]) (rest := []) ⟨hx, hb, hml, hown, hts⟩ (g_slyCut l D k _ h_now n_a n_N n_J n_F j1 j2 (by first | assumption | exact ⟨by first | omega | (dsimp; omega), by first | omega | (dsimp; omega), ⟨by first | omega | (dsimp; omega), by first | omega | (dsimp; omega)⟩, by first | omega | (dsimp; omega), by first | omega | (dsimp; omega)⟩) (by omega) (by omega)) (va_cwS 3 hts gX7_sly_X1_slyCut rfl rfl rfl hq_X1_slyCut ⟨Nat.le_of_ble_eq_true rfl, Nat.le_of_ble_eq_true rfl⟩) (hs_preS hK hN (hs_subP (w := [_, _, _, _, _, _, _, _]) hP [1, 2, 3, 4, 5, 6, 7, 8] rfl) (hD.sub (ws' := [_, _, _, _, _, _, _, _]) [1, 2, 3, 4, 5, 6, 7, 8] (hs_upnd rfl) rfl)) rfl rfl hl.1 rfl (lv_room (Nat.le_of_ble_eq_true rfl)) dX7_sly_26 ⟨Nat.le_of_ble_eq_true rfl, Nat.le_of_ble_eq_true rfl⟩) hP hD hS hA [true, false, false, false, false, false, false, false, false] [_] [_, _, _, _, _, _, _, _] rfl [0, 1, 2, 3, 4, 5, 6, 7] rfl [0, 1, 2, 3, 4, 5, 6, 7] (fun u_11 => [_, _, _, _, _, _, _, _]) (fun _ => rfl) (hs_upnd rfl) [true, false, false, false, false, false, false, false, false] (fun u_11 => [_, _, _, _, _, _, _, _, _]) (fun _ => rfl) (fun r_9 u_11 H locs hw_10 hP hD hS => ?_)
      refine lv_istore (lv' := [(4, .int r_9), (0, .ref h), (1, .int (nI j1)), (2, .int (nI j2)), (3, .int what)]) hx hb dX7_sly_29 hl (Nat.le_of_ble_eq_true rfl) rfl (fun ls hl => ?_)
      refine lv_iload_n hx hb dX7_sly_31 rfl (lv_at hl 4 rfl) ?_
      refine lv_if_ne (tgt := 40) hx hb dX7_sly_32 rfl (fun c_12 => ?_) (fun c_12 => ?_)
      · refine lv_aload_n hx hb dX7_sly_40 rfl (lv_at hl 1 rfl) ?_
        refine va_get (D := D) (ci := 6) (v := .ref h_now) (C := RX7) (T := TX7) (N := 10) hx hb hts hiX7 hown hK hP 0 rfl rfl 0 (Nat.le_of_ble_eq_true rfl) fl10 (fun _ h9 => h9) rfl dX7_sly_41 ?_
        refine lv_iload_n hx hb dX7_sly_44 rfl (lv_at hl 2 rfl) ?_
        refine lv_iload_n hx hb dX7_sly_45 rfl (lv_at hl 3 rfl) ?_
        refine lv_iload hx hb dX7_sly_46 (lv_at hl 0 rfl) ?_
        refine hs_ciM (va_runS (As := [.ref h_now, .int (nI j1), .int (nI j2), .int r_9]) (rest := []) ⟨hx, hb, hml, hown, hts⟩ (g_leftOver l D k _ h_now n_a n_N n_J n_F j1 j2 r_9 (by first | assumption | exact ⟨by first | omega | (dsimp; omega), by first | omega | (dsimp; omega), ⟨by first | omega | (dsimp; omega), by first | omega | (dsimp; omega)⟩, by first | omega | (dsimp; omega), by first | omega | (dsimp; omega)⟩) (by omega) (by omega)) (va_cwS 4 hts gX7_sly_X1_leftOver rfl rfl rfl hq_X1_leftOver ⟨Nat.le_of_ble_eq_true rfl, Nat.le_of_ble_eq_true rfl⟩) (hs_preS hK hN (hs_subP (w := [_, _, _, _, _, _, _, _]) hP [1, 2, 3, 4, 5, 6, 7, 8] rfl) (hD.sub (ws' := [_, _, _, _, _, _, _, _]) [1, 2, 3, 4, 5, 6, 7, 8] (hs_upnd rfl) rfl)) rfl rfl hl.1 rfl (lv_room (Nat.le_of_ble_eq_true rfl)) dX7_sly_48 ⟨Nat.le_of_ble_eq_true rfl, Nat.le_of_ble_eq_true rfl⟩) hP hD hS hA [true, false, false, false, false, false, false, false, false] [_] [_, _, _, _, _, _, _, _] rfl [0, 1, 2, 3, 4, 5, 6, 7] rfl [0, 1, 2, 3, 4, 5, 6, 7] (fun u_15 => [_, _, _, _, _, _, _, _]) (fun _ => rfl) (hs_upnd rfl) [true, false, false, false, false, false, false, false, false] (fun u_15 => [_, _, _, _, _, _, _, _, _]) (fun _ => rfl) (fun r_13 u_15 H locs hw_14 hP hD hS => ?_)
        exact hs_iret hx hb hr hlocks hK hP hD hS () [0, 1, 2, 3, 4, 5, 6, 7, 8] rfl (hs_upnd rfl) dX7_sly_51 (trivial)
      · refine lv_iload hx hb dX7_sly_35 (lv_at hl 0 rfl) ?_
        refine lv_goto (tgt := 51) hx hb dX7_sly_37 rfl ?_
        exact hs_iret hx hb hr hlocks hK hP hD hS () [0, 1, 2, 3, 4, 5, 6, 7, 8] rfl (hs_upnd rfl) dX7_sly_51 (trivial)
    · refine lv_iconst (v := (-1)) hx hb dX7_sly_18 hki_m1 ?_
      exact hs_iret hx hb hr hlocks hK hP hD hS () [0, 1, 2, 3, 4, 5, 6, 7, 8] rfl (hs_upnd rfl) dX7_sly_19 (trivial)

set_option maxHeartbeats 4000000 in
set_option maxRecDepth 100000 in
theorem gp_halves (l : Launch) (D : va_G) (k : Nat → ClassId) (sz : Nat) (h : Nat) (h_now : Nat) (h_trial : Nat) (h_images : Nat) (h_imageThere : Nat) (h_teller : Nat) (h_ranks : Nat) (h_court : Nat) (h_sheets : Nat) (h_lf : Int32) (h_lt : Int32) (n_a : Nat → Nat) (n_N : Nat → Nat) (n_J : Nat → Int32) (n_F : Nat → Nat → Int32) (a : Int32) (what : Int32) (hN0 : thN n_N) (hF : thF n_N n_F) (h2 : 2 ≤ n_N 0) : MI l yX7_halves wsX7_halves ({ frames := 4, cells := 0, slots := 0, locals := 98 }) D k [.ref h, .int a, .int what] [oq6 h h_now h_trial h_images h_imageThere h_teller h_ranks h_court h_sheets h_lf h_lt, oqT h_now n_a n_N n_J, oqF0 k n_a n_F, oqF1 k n_a n_F, oqF2 k n_a n_F, oqF3 k n_a n_F, oqF4 k n_a n_F, oqF5 k n_a n_F, oqF6 k n_a n_F] sz (fun (r : Int32) (u : Unit) => True) (fun (u : Unit) => [oq6 h h_now h_trial h_images h_imageThere h_teller h_ranks h_court h_sheets h_lf h_lt, oqT h_now n_a n_N n_J, oqF0 k n_a n_F, oqF1 k n_a n_F, oqF2 k n_a n_F, oqF3 k n_a n_F, oqF4 k n_a n_F, oqF5 k n_a n_F, oqF6 k n_a n_F]) := by
  refine Met.ofW (cc := cX7_halves) (maxL := 4) (ret := (some .int)) hpn_X7 rfl ?_
  intro p e s m args below meth c s₁ B hml hv
  obtain ⟨rfl, hsz, hP, hK, hD0, hN⟩ := hv
  have hx := B.exec
  have hb := B.bytes
  have hr := B.returns
  have hlocks := B.notSynchronized
  have hts := atoms_spec (ws := wsX7_halves) B.pre
  have hown := findClass_of_methodNamed B.named
  have hown : s.vm.findClass RX7 = some m.cls := hown
  have hiX7 : ∀ w ∈ u_ws RX7 TX7 10, w ∈ wsX7_halves := fun w9 hw9 => List.mem_cons_of_mem _ (igX7 w9 hw9)
  have fl10 := hts (.fieldLink RX7 10 "HalfScales" "now" "LHalfScales$Thing;") (List.mem_cons_of_mem _ (hs_inG 1 215 rfl rfl))
  have hNn := hN0
  obtain ⟨I0, I1, ⟨I2, I2b⟩, I3, I4⟩ := hN0
  subst hsz
  have hD := hD0.self (sz := s.heap.size)
  generalize hAe : va_A [oq6 h h_now h_trial h_images h_imageThere h_teller h_ranks h_court h_sheets h_lf h_lt, oqT h_now n_a n_N n_J, oqF0 k n_a n_F, oqF1 k n_a n_F, oqF2 k n_a n_F, oqF3 k n_a n_F, oqF4 k n_a n_F, oqF5 k n_a n_F, oqF6 k n_a n_F] s.heap.size = A at hD ⊢
  have hA : ∀ q : Nat, s.heap.size ≤ q → A q := fun q h => by rw [← hAe]; exact Or.inr h
  have hS : va_S A s.heap s.heap [] := va_S.rf
  have hl := lv_entry ([.ref h, .int a, .int what]) (n := 4) (Nat.le_of_ble_eq_true rfl)
  rw [lg_entry_eq]
  generalize (lg_sl ([.ref h, .int a, .int what]) ++ List.replicate (4 - (lg_sl ([.ref h, .int a, .int what])).length) Slot.unset).toArray = ls at hl ⊢
  have hl : lv_has ls 4 [(0, .ref h), (1, .int a), (2, .int what)] := hl
  have hP : va_P D vwCl [oq6 h h_now h_trial h_images h_imageThere h_teller h_ranks h_court h_sheets h_lf h_lt, oqT h_now n_a n_N n_J, oqF0 k n_a n_F, oqF1 k n_a n_F, oqF2 k n_a n_F, oqF3 k n_a n_F, oqF4 k n_a n_F, oqF5 k n_a n_F, oqF6 k n_a n_F] s.heap := hP
  refine lv_iload_n hx hb dX7_halves_0 rfl (lv_at hl 1 rfl) ?_
  refine lv_iconst (v := 0) hx hb dX7_halves_1 hki_0 ?_
  refine lv_aload_n hx hb dX7_halves_2 rfl (lv_at hl 0 rfl) ?_
  refine va_get (D := D) (ci := 6) (v := .ref h_now) (C := RX7) (T := TX7) (N := 10) hx hb hts hiX7 hown hK hP 0 rfl rfl 0 (Nat.le_of_ble_eq_true rfl) fl10 (fun _ h9 => h9) rfl dX7_halves_3 ?_
  refine hs_ciM (va_runV (As := []) (rest := [.int 0, .int a]) ⟨hx, hb, hml, hown, hts⟩ (g_allPeople l D k _ h_now n_a n_N n_J (by first | assumption | exact ⟨by first | omega | (dsimp; omega), by first | omega | (dsimp; omega), ⟨by first | omega | (dsimp; omega), by first | omega | (dsimp; omega)⟩, by first | omega | (dsimp; omega), by first | omega | (dsimp; omega)⟩)) (cwV 0 hts gX7_halves_X6_allPeople rfl rfl rfl ⟨rfl, hq_X6_allPeople⟩ ⟨Nat.le_of_ble_eq_true rfl, Nat.le_of_ble_eq_true rfl⟩) (hs_preV hK hN (hs_subP (w := [_]) hP [1] rfl) (hD.sub (ws' := [_]) [1] (hs_upnd rfl) rfl) (ci := 5) (q0 := 0) rfl rfl) rfl rfl hl.1 rfl (lv_room (Nat.le_of_ble_eq_true rfl)) dX7_halves_6 ⟨Nat.le_of_ble_eq_true rfl, Nat.le_of_ble_eq_true rfl⟩) hP hD hS hA [true, false, true, true, true, true, true, true, true] [_, _, _, _, _, _, _, _] [_] rfl [0] rfl [0] (fun u_3 => [_]) (fun _ => rfl) (hs_upnd rfl) [true, false, true, true, true, true, true, true, true] (fun u_3 => [_, _, _, _, _, _, _, _, _]) (fun _ => rfl) (fun r_1 u_3 H locs hw_2 hP hD hS => ?_)
  refine hs_topi (nI (2 ^ (n_N 1) - 1)) hw_2 ?_
  refine hs_pi (va_runS (As := [.int a, .int 0, .int (nI (2 ^ (n_N 1) - 1))]) (rest := []) ⟨hx, hb, hml, hown, hts⟩ (g_within l D k _ a 0 (nI (2 ^ (n_N 1) - 1))) (va_cwS 3 hts gX7_halves_X7_within rfl rfl rfl hq_X7_within ⟨Nat.le_of_ble_eq_true rfl, Nat.le_of_ble_eq_true rfl⟩) (hs_preS hK hN (hs_subP (w := []) hP [] rfl) (hD.sub (ws' := []) [] rfl rfl)) rfl rfl hl.1 rfl (lv_room (Nat.le_of_ble_eq_true rfl)) dX7_halves_9 ⟨Nat.le_of_ble_eq_true rfl, Nat.le_of_ble_eq_true rfl⟩) hP hD hS hA (fun r_4 u_6 H locs hw_5 hP hS => ?_)
  refine hs_topi (hsb (hsin a 0 (nI (2 ^ (n_N 1) - 1)))) hw_5 ?_
  refine lv_if_eq (tgt := 24) hx hb dX7_halves_12 rfl (fun c_7 => ?_) (fun c_7 => ?_)
  · refine lv_iconst (v := (-1)) hx hb dX7_halves_24 hki_m1 ?_
    exact hs_iret hx hb hr hlocks hK hP hD hS () [0, 1, 2, 3, 4, 5, 6, 7, 8] rfl (hs_upnd rfl) dX7_halves_25 (trivial)
  · refine lv_iload_n hx hb dX7_halves_15 rfl (lv_at hl 2 rfl) ?_
    refine lv_iconst (v := 0) hx hb dX7_halves_16 hki_0 ?_
    refine lv_iconst (v := 1) hx hb dX7_halves_17 hki_1 ?_
    refine hs_pi (va_runS (As := [.int what, .int 0, .int 1]) (rest := []) ⟨hx, hb, hml, hown, hts⟩ (g_within l D k _ what 0 1) (va_cwS 3 hts gX7_halves_X7_within rfl rfl rfl hq_X7_within ⟨Nat.le_of_ble_eq_true rfl, Nat.le_of_ble_eq_true rfl⟩) (hs_preS hK hN (hs_subP (w := []) hP [] rfl) (hD.sub (ws' := []) [] rfl rfl)) rfl rfl hl.1 rfl (lv_room (Nat.le_of_ble_eq_true rfl)) dX7_halves_18 ⟨Nat.le_of_ble_eq_true rfl, Nat.le_of_ble_eq_true rfl⟩) hP hD hS hA (fun r_8 u_10 H locs hw_9 hP hS => ?_)
    refine hs_topi (hsb (hsin what 0 1)) hw_9 ?_
    refine lv_if_ne (tgt := 26) hx hb dX7_halves_21 rfl (fun c_11 => ?_) (fun c_11 => ?_)
    · refine lv_aload_n hx hb dX7_halves_26 rfl (lv_at hl 0 rfl) ?_
      refine va_get (D := D) (ci := 6) (v := .ref h_now) (C := RX7) (T := TX7) (N := 10) hx hb hts hiX7 hown hK hP 0 rfl rfl 0 (Nat.le_of_ble_eq_true rfl) fl10 (fun _ h9 => h9) rfl dX7_halves_27 ?_
      refine lv_iload_n hx hb dX7_halves_30 rfl (lv_at hl 1 rfl) ?_
      refine hs_ciM (va_runS (As := [.ref h_now, .int a]) (rest := []) ⟨hx, hb, hml, hown, hts⟩ (g_fewestCuts l D k _ h_now n_a n_N n_J n_F a (by first | assumption | exact ⟨by first | omega | (dsimp; omega), by first | omega | (dsimp; omega), ⟨by first | omega | (dsimp; omega), by first | omega | (dsimp; omega)⟩, by first | omega | (dsimp; omega), by first | omega | (dsimp; omega)⟩)) (va_cwS 2 hts gX7_halves_X1_fewestCuts rfl rfl rfl hq_X1_fewestCuts ⟨Nat.le_of_ble_eq_true rfl, Nat.le_of_ble_eq_true rfl⟩) (hs_preS hK hN (hs_subP (w := [_, _, _, _, _, _, _, _]) hP [1, 2, 3, 4, 5, 6, 7, 8] rfl) (hD.sub (ws' := [_, _, _, _, _, _, _, _]) [1, 2, 3, 4, 5, 6, 7, 8] (hs_upnd rfl) rfl)) rfl rfl hl.1 rfl (lv_room (Nat.le_of_ble_eq_true rfl)) dX7_halves_31 ⟨Nat.le_of_ble_eq_true rfl, Nat.le_of_ble_eq_true rfl⟩) hP hD hS hA [true, false, false, false, false, false, false, false, false] [_] [_, _, _, _, _, _, _, _] rfl [0, 1, 2, 3, 4, 5, 6, 7] rfl [0, 1, 2, 3, 4, 5, 6, 7] (fun u_14 => [_, _, _, _, _, _, _, _]) (fun _ => rfl) (hs_upnd rfl) [true, false, false, false, false, false, false, false, false] (fun u_14 => [_, _, _, _, _, _, _, _, _]) (fun _ => rfl) (fun r_12 u_14 H locs hw_13 hP hD hS => ?_)
      refine lv_istore_n (lv' := [(3, .int r_12), (0, .ref h), (1, .int a), (2, .int what)]) hx hb dX7_halves_34 rfl hl (Nat.le_of_ble_eq_true rfl) rfl (fun ls hl => ?_)
      refine lv_iload_n hx hb dX7_halves_35 rfl (lv_at hl 0 rfl) ?_
      refine lv_bipush (v := (-4)) hx hb dX7_halves_36 hkb_m4 ?_
      refine lv_icmp_ne (tgt := 44) hx hb dX7_halves_38 rfl (fun c_15 => ?_) (fun c_15 => ?_)
      · refine lv_iload_n hx hb dX7_halves_44 rfl (lv_at hl 3 rfl) ?_
        refine lv_if_ne (tgt := 59) hx hb dX7_halves_45 rfl (fun c_16 => ?_) (fun c_16 => ?_)
        · refine lv_iload_n hx hb dX7_halves_59 rfl (lv_at hl 0 rfl) ?_
          exact hs_iret hx hb hr hlocks hK hP hD hS () [0, 1, 2, 3, 4, 5, 6, 7, 8] rfl (hs_upnd rfl) dX7_halves_60 (trivial)
        · refine lv_aload_n hx hb dX7_halves_48 rfl (lv_at hl 1 rfl) ?_
          refine va_get (D := D) (ci := 6) (v := .ref h_now) (C := RX7) (T := TX7) (N := 10) hx hb hts hiX7 hown hK hP 0 rfl rfl 0 (Nat.le_of_ble_eq_true rfl) fl10 (fun _ h9 => h9) rfl dX7_halves_49 ?_
          refine lv_iload_n hx hb dX7_halves_52 rfl (lv_at hl 0 rfl) ?_
          refine hs_ciM (va_runS (As := [.ref h_now, .int r_12]) (rest := []) ⟨hx, hb, hml, hown, hts⟩ (g_cutsOf l D k _ h_now n_a n_N n_J r_12) (va_cwS 2 hts gX7_halves_X1_cutsOf rfl rfl rfl hq_X1_cutsOf ⟨Nat.le_of_ble_eq_true rfl, Nat.le_of_ble_eq_true rfl⟩) (hs_preS hK hN (hs_subP (w := [_]) hP [1] rfl) (hD.sub (ws' := [_]) [1] (hs_upnd rfl) rfl)) rfl rfl hl.1 rfl (lv_room (Nat.le_of_ble_eq_true rfl)) dX7_halves_53 ⟨Nat.le_of_ble_eq_true rfl, Nat.le_of_ble_eq_true rfl⟩) hP hD hS hA [true, false, true, true, true, true, true, true, true] [_, _, _, _, _, _, _, _] [_] rfl [0] rfl [0] (fun u_19 => [_]) (fun _ => rfl) (hs_upnd rfl) [true, false, true, true, true, true, true, true, true] (fun u_19 => [_, _, _, _, _, _, _, _, _]) (fun _ => rfl) (fun r_17 u_19 H locs hw_18 hP hD hS => ?_)
          refine lv_goto (tgt := 60) hx hb dX7_halves_56 rfl ?_
          exact hs_iret hx hb hr hlocks hK hP hD hS () [0, 1, 2, 3, 4, 5, 6, 7, 8] rfl (hs_upnd rfl) dX7_halves_60 (trivial)
      · refine lv_bipush (v := (-4)) hx hb dX7_halves_41 hkb_m4 ?_
        exact hs_iret hx hb hr hlocks hK hP hD hS () [0, 1, 2, 3, 4, 5, 6, 7, 8] rfl (hs_upnd rfl) dX7_halves_43 (trivial)
    · refine lv_iconst (v := (-1)) hx hb dX7_halves_24 hki_m1 ?_
      exact hs_iret hx hb hr hlocks hK hP hD hS () [0, 1, 2, 3, 4, 5, 6, 7, 8] rfl (hs_upnd rfl) dX7_halves_25 (trivial)

set_option maxHeartbeats 4000000 in
set_option maxRecDepth 100000 in
theorem gp_stop (l : Launch) (D : va_G) (k : Nat → ClassId) (sz : Nat) (h : Nat) (h_now : Nat) (h_trial : Nat) (h_images : Nat) (h_imageThere : Nat) (h_teller : Nat) (h_ranks : Nat) (h_court : Nat) (h_sheets : Nat) (h_lf : Int32) (h_lt : Int32) (n_a : Nat → Nat) (n_N : Nat → Nat) (n_J : Nat → Int32) (n_F : Nat → Nat → Int32) (a : Int32) (what : Int32) (hN0 : thN n_N) (hF : thF n_N n_F) (h2 : 2 ≤ n_N 0) : MI l yX7_stop wsX7_stop ({ frames := 1, cells := 0, slots := 0, locals := 22 }) D k [.ref h, .int a, .int what] [oq6 h h_now h_trial h_images h_imageThere h_teller h_ranks h_court h_sheets h_lf h_lt, oqT h_now n_a n_N n_J, oqF0 k n_a n_F, oqF1 k n_a n_F, oqF2 k n_a n_F, oqF3 k n_a n_F, oqF4 k n_a n_F, oqF5 k n_a n_F, oqF6 k n_a n_F] sz (fun (r : Int32) (u : Unit) => True) (fun (u : Unit) => [oq6 h h_now h_trial h_images h_imageThere h_teller h_ranks h_court h_sheets h_lf h_lt, oqT h_now n_a n_N n_J, oqF0 k n_a n_F, oqF1 k n_a n_F, oqF2 k n_a n_F, oqF3 k n_a n_F, oqF4 k n_a n_F, oqF5 k n_a n_F, oqF6 k n_a n_F]) := by
  refine Met.ofW (cc := cX7_stop) (maxL := 7) (ret := (some .int)) hpn_X7 rfl ?_
  intro p e s m args below meth c s₁ B hml hv
  obtain ⟨rfl, hsz, hP, hK, hD0, hN⟩ := hv
  have hx := B.exec
  have hb := B.bytes
  have hr := B.returns
  have hlocks := B.notSynchronized
  have hts := atoms_spec (ws := wsX7_stop) B.pre
  have hown := findClass_of_methodNamed B.named
  have hown : s.vm.findClass RX7 = some m.cls := hown
  have hiX6 : ∀ w ∈ u_ws RX6 TX6 15, w ∈ wsX7_stop := fun w9 hw9 => List.mem_cons_of_mem _ (igX6 w9 hw9)
  have hiX7 : ∀ w ∈ u_ws RX7 TX7 10, w ∈ wsX7_stop := fun w9 hw9 => List.mem_cons_of_mem _ (igX7 w9 hw9)
  have fl10 := hts (.fieldLink RX7 10 "HalfScales" "now" "LHalfScales$Thing;") (List.mem_cons_of_mem _ (hs_inG 1 215 rfl rfl))
  have fl102 := hts (.fieldLink RX7 102 "HalfScales$Thing" "fine" "I") (List.mem_cons_of_mem _ (hs_inG 1 65 rfl rfl))
  have hNn := hN0
  obtain ⟨I0, I1, ⟨I2, I2b⟩, I3, I4⟩ := hN0
  subst hsz
  have hD := hD0.self (sz := s.heap.size)
  generalize hAe : va_A [oq6 h h_now h_trial h_images h_imageThere h_teller h_ranks h_court h_sheets h_lf h_lt, oqT h_now n_a n_N n_J, oqF0 k n_a n_F, oqF1 k n_a n_F, oqF2 k n_a n_F, oqF3 k n_a n_F, oqF4 k n_a n_F, oqF5 k n_a n_F, oqF6 k n_a n_F] s.heap.size = A at hD ⊢
  have hA : ∀ q : Nat, s.heap.size ≤ q → A q := fun q h => by rw [← hAe]; exact Or.inr h
  have hS : va_S A s.heap s.heap [] := va_S.rf
  have hl := lv_entry ([.ref h, .int a, .int what]) (n := 7) (Nat.le_of_ble_eq_true rfl)
  rw [lg_entry_eq]
  generalize (lg_sl ([.ref h, .int a, .int what]) ++ List.replicate (7 - (lg_sl ([.ref h, .int a, .int what])).length) Slot.unset).toArray = ls at hl ⊢
  have hl : lv_has ls 7 [(0, .ref h), (1, .int a), (2, .int what)] := hl
  have hP : va_P D vwCl [oq6 h h_now h_trial h_images h_imageThere h_teller h_ranks h_court h_sheets h_lf h_lt, oqT h_now n_a n_N n_J, oqF0 k n_a n_F, oqF1 k n_a n_F, oqF2 k n_a n_F, oqF3 k n_a n_F, oqF4 k n_a n_F, oqF5 k n_a n_F, oqF6 k n_a n_F] s.heap := hP
  refine lv_iload_n hx hb dX7_stop_0 rfl (lv_at hl 1 rfl) ?_
  refine lv_iconst (v := 0) hx hb dX7_stop_1 hki_0 ?_
  refine lv_bipush (v := 99) hx hb dX7_stop_2 hkb_99 ?_
  refine hs_pi (va_runS (As := [.int a, .int 0, .int 99]) (rest := []) ⟨hx, hb, hml, hown, hts⟩ (g_within l D k _ a 0 99) (va_cwS 3 hts gX7_stop_X7_within rfl rfl rfl hq_X7_within ⟨Nat.le_of_ble_eq_true rfl, Nat.le_of_ble_eq_true rfl⟩) (hs_preS hK hN (hs_subP (w := []) hP [] rfl) (hD.sub (ws' := []) [] rfl rfl)) rfl rfl hl.1 rfl (lv_room (Nat.le_of_ble_eq_true rfl)) dX7_stop_4 ⟨Nat.le_of_ble_eq_true rfl, Nat.le_of_ble_eq_true rfl⟩) hP hD hS hA (fun r_1 u_3 H locs hw_2 hP hS => ?_)
  refine hs_topi (hsb (hsin a 0 99)) hw_2 ?_
  refine lv_if_eq (tgt := 19) hx hb dX7_stop_7 rfl (fun c_4 => ?_) (fun c_4 => ?_)
  · refine lv_iconst (v := (-1)) hx hb dX7_stop_19 hki_m1 ?_
    exact hs_iret hx hb hr hlocks hK hP hD hS () [0, 1, 2, 3, 4, 5, 6, 7, 8] rfl (hs_upnd rfl) dX7_stop_20 (trivial)
  · refine lv_iload_n hx hb dX7_stop_10 rfl (lv_at hl 2 rfl) ?_
    refine lv_iconst (v := 0) hx hb dX7_stop_11 hki_0 ?_
    refine lv_iconst (v := 1) hx hb dX7_stop_12 hki_1 ?_
    refine hs_pi (va_runS (As := [.int what, .int 0, .int 1]) (rest := []) ⟨hx, hb, hml, hown, hts⟩ (g_within l D k _ what 0 1) (va_cwS 3 hts gX7_stop_X7_within rfl rfl rfl hq_X7_within ⟨Nat.le_of_ble_eq_true rfl, Nat.le_of_ble_eq_true rfl⟩) (hs_preS hK hN (hs_subP (w := []) hP [] rfl) (hD.sub (ws' := []) [] rfl rfl)) rfl rfl hl.1 rfl (lv_room (Nat.le_of_ble_eq_true rfl)) dX7_stop_13 ⟨Nat.le_of_ble_eq_true rfl, Nat.le_of_ble_eq_true rfl⟩) hP hD hS hA (fun r_5 u_7 H locs hw_6 hP hS => ?_)
    refine hs_topi (hsb (hsin what 0 1)) hw_6 ?_
    refine lv_if_ne (tgt := 21) hx hb dX7_stop_16 rfl (fun c_8 => ?_) (fun c_8 => ?_)
    · refine lv_aload_n hx hb dX7_stop_21 rfl (lv_at hl 0 rfl) ?_
      refine va_get (D := D) (ci := 6) (v := .ref h_now) (C := RX7) (T := TX7) (N := 10) hx hb hts hiX7 hown hK hP 0 rfl rfl 0 (Nat.le_of_ble_eq_true rfl) fl10 (fun _ h9 => h9) rfl dX7_stop_22 ?_
      refine va_get (D := D) (ci := 5) (v := .int (n_J 1)) (C := RX6) (T := TX6) (N := 15) hx hb hts hiX6 hown hK hP 1 rfl rfl 10 (Nat.le_of_ble_eq_true rfl) fl102 (fun _ h9 => h9) rfl dX7_stop_25 ?_
      refine lv_istore_n (lv' := [(3, .int (n_J 1)), (0, .ref h), (1, .int a), (2, .int what)]) hx hb dX7_stop_28 rfl hl (Nat.le_of_ble_eq_true rfl) rfl (fun ls hl => ?_)
      refine lv_iconst (v := 0) hx hb dX7_stop_29 hki_0 ?_
      refine lv_istore (lv' := [(4, .int 0), (3, .int (n_J 1)), (0, .ref h), (1, .int a), (2, .int what)]) hx hb dX7_stop_30 hl (Nat.le_of_ble_eq_true rfl) rfl (fun ls hl => ?_)
      refine lv_iload_n hx hb dX7_stop_32 rfl (lv_at hl 1 rfl) ?_
      refine lv_istore (lv' := [(5, .int (n_J 1)), (4, .int 0), (3, .int (n_J 1)), (0, .ref h), (1, .int a), (2, .int what)]) hx hb dX7_stop_33 hl (Nat.le_of_ble_eq_true rfl) rfl (fun ls hl => ?_)
      refine lv_iconst (v := 1) hx hb dX7_stop_35 hki_1 ?_
      refine lv_istore (lv' := [(6, .int 1), (5, .int (n_J 1)), (4, .int 0), (3, .int (n_J 1)), (0, .ref h), (1, .int a), (2, .int what)]) hx hb dX7_stop_36 hl (Nat.le_of_ble_eq_true rfl) rfl (fun ls hl => ?_)
      refine hs_while (σ := Int32 × Int32 × Int32 × Nat) (fun x => x.2.2.2 ≤ 100) (fun x => 100 - x.2.2.2) (fun x => [oq6 h h_now h_trial h_images h_imageThere h_teller h_ranks h_court h_sheets h_lf h_lt, oqT h_now n_a n_N n_J, oqF0 k n_a n_F, oqF1 k n_a n_F, oqF2 k n_a n_F, oqF3 k n_a n_F, oqF4 k n_a n_F, oqF5 k n_a n_F, oqF6 k n_a n_F]) (fun x => [(6, .int (nI (x.2.2.2))), (5, .int (x.2.2.1)), (4, .int (x.2.1)), (3, .int (x.1)), (0, .ref h), (1, .int a), (2, .int what)]) ?_ (n_J 1, 0, n_J 1, 1) ?_ hP hD hS hl
      · intro x hI ih38 H locs ls hP hD hS hl
        obtain ⟨fi, best, least, nn⟩ := x
        try dsimp only at hI
        have hP : va_P D vwCl [oq6 h h_now h_trial h_images h_imageThere h_teller h_ranks h_court h_sheets h_lf h_lt, oqT h_now n_a n_N n_J, oqF0 k n_a n_F, oqF1 k n_a n_F, oqF2 k n_a n_F, oqF3 k n_a n_F, oqF4 k n_a n_F, oqF5 k n_a n_F, oqF6 k n_a n_F] H := hP
        have hD : va_D A [oq6 h h_now h_trial h_images h_imageThere h_teller h_ranks h_court h_sheets h_lf h_lt, oqT h_now n_a n_N n_J, oqF0 k n_a n_F, oqF1 k n_a n_F, oqF2 k n_a n_F, oqF3 k n_a n_F, oqF4 k n_a n_F, oqF5 k n_a n_F, oqF6 k n_a n_F] := hD
        have hl : lv_has ls 7 [(6, .int (nI nn)), (5, .int least), (4, .int best), (3, .int fi), (0, .ref h), (1, .int a), (2, .int what)] := hl
        refine lv_iload hx hb dX7_stop_38 (lv_at hl 0 rfl) ?_
        refine lv_bipush (v := 99) hx hb dX7_stop_40 hkb_99 ?_
        refine lv_icmp_gt (tgt := 84) hx hb dX7_stop_42 rfl (fun c_9 => ?_) (fun c_9 => ?_)
        · have nc_9 : 99 < nn := (nI_ltI (a := 99) (b := nn) (by omega) (by omega)).mp c_9
          refine lv_iload_n hx hb dX7_stop_84 rfl (lv_at hl 6 rfl) ?_
          refine lv_if_ne (tgt := 93) hx hb dX7_stop_85 rfl (fun c_10 => ?_) (fun c_10 => ?_)
          · refine lv_iload hx hb dX7_stop_93 (lv_at hl 1 rfl) ?_
            exact hs_iret hx hb hr hlocks hK hP hD hS () [0, 1, 2, 3, 4, 5, 6, 7, 8] rfl (hs_upnd rfl) dX7_stop_95 (trivial)
          · refine lv_iload hx hb dX7_stop_88 (lv_at hl 2 rfl) ?_
            refine lv_goto (tgt := 95) hx hb dX7_stop_90 rfl ?_
            exact hs_iret hx hb hr hlocks hK hP hD hS () [0, 1, 2, 3, 4, 5, 6, 7, 8] rfl (hs_upnd rfl) dX7_stop_95 (trivial)
        · have nc_9 : ¬ 99 < nn := fun hq9 => c_9 ((nI_ltI (a := 99) (b := nn) (by omega) (by omega)).mpr hq9)
          refine lv_iload_n hx hb dX7_stop_45 rfl (lv_at hl 3 rfl) ?_
          refine lv_iconst (v := 1) hx hb dX7_stop_46 hki_1 ?_
          refine lv_icmp_le (tgt := 84) hx hb dX7_stop_47 rfl (fun c_11 => ?_) (fun c_11 => ?_)
          · refine lv_iload_n hx hb dX7_stop_84 rfl (lv_at hl 6 rfl) ?_
            refine lv_if_ne (tgt := 93) hx hb dX7_stop_85 rfl (fun c_12 => ?_) (fun c_12 => ?_)
            · refine lv_iload hx hb dX7_stop_93 (lv_at hl 1 rfl) ?_
              exact hs_iret hx hb hr hlocks hK hP hD hS () [0, 1, 2, 3, 4, 5, 6, 7, 8] rfl (hs_upnd rfl) dX7_stop_95 (trivial)
            · refine lv_iload hx hb dX7_stop_88 (lv_at hl 2 rfl) ?_
              refine lv_goto (tgt := 95) hx hb dX7_stop_90 rfl ?_
              exact hs_iret hx hb hr hlocks hK hP hD hS () [0, 1, 2, 3, 4, 5, 6, 7, 8] rfl (hs_upnd rfl) dX7_stop_95 (trivial)
          · refine lv_iload_n hx hb dX7_stop_50 rfl (lv_at hl 3 rfl) ?_
            refine hs_pi (va_runS (As := [.int fi]) (rest := []) ⟨hx, hb, hml, hown, hts⟩ (g_halfUp l D k _ fi) (va_cwS 1 hts gX7_stop_X7_halfUp rfl rfl rfl hq_X7_halfUp ⟨Nat.le_of_ble_eq_true rfl, Nat.le_of_ble_eq_true rfl⟩) (hs_preS hK hN (hs_subP (w := []) hP [] rfl) (hD.sub (ws' := []) [] rfl rfl)) rfl rfl hl.1 rfl (lv_room (Nat.le_of_ble_eq_true rfl)) dX7_stop_51 ⟨Nat.le_of_ble_eq_true rfl, Nat.le_of_ble_eq_true rfl⟩) hP hD hS hA (fun r_13 u_15 H locs hw_14 hP hS => ?_)
            refine hs_topi ((fi + 1) / 2) hw_14 ?_
            refine lv_istore_n (lv' := [(3, .int ((fi + 1) / 2)), (6, .int (nI nn)), (5, .int least), (4, .int best), (0, .ref h), (1, .int a), (2, .int what)]) hx hb dX7_stop_54 rfl hl (Nat.le_of_ble_eq_true rfl) rfl (fun ls hl => ?_)
            refine lv_iload_n hx hb dX7_stop_55 rfl (lv_at hl 0 rfl) ?_
            refine lv_iload hx hb dX7_stop_56 (lv_at hl 1 rfl) ?_
            refine lv_iload_n hx hb dX7_stop_58 rfl (lv_at hl 5 rfl) ?_
            refine lv_imul hx hb dX7_stop_59 ?_
            refine lv_iadd hx hb dX7_stop_60 ?_
            refine lv_iload hx hb dX7_stop_61 (lv_at hl 2 rfl) ?_
            refine lv_icmp_ge (tgt := 78) hx hb dX7_stop_63 rfl (fun c_16 => ?_) (fun c_16 => ?_)
            · refine lv_iinc (v := nI (nn + 1)) (lv' := [(6, .int (nI (nn + 1))), (3, .int ((fi + 1) / 2)), (5, .int least), (4, .int best), (0, .ref h), (1, .int a), (2, .int what)]) hx hb dX7_stop_78 hl (k := 1) rfl (nI_add (nn) 1) (Nat.le_of_ble_eq_true rfl) rfl (fun ls hl => ?_)
              refine lv_goto (tgt := 38) hx hb dX7_stop_81 rfl ?_
              exact ih38 ((fi + 1) / 2, best, least, nn + 1) (by (try dsimp only); first | omega | (refine ⟨?_, ?_⟩ <;> first | omega | assumption)) (by (try dsimp only); omega) _ _ _ hP hD hS (lv_sub hl [0, 2, 3, 1, 4, 5, 6] rfl)
            · refine lv_iload hx hb dX7_stop_66 (lv_at hl 1 rfl) ?_
              refine lv_istore (lv' := [(4, .int (nI nn)), (3, .int ((fi + 1) / 2)), (6, .int (nI nn)), (5, .int least), (0, .ref h), (1, .int a), (2, .int what)]) hx hb dX7_stop_68 hl (Nat.le_of_ble_eq_true rfl) rfl (fun ls hl => ?_)
              refine lv_iload_n hx hb dX7_stop_70 rfl (lv_at hl 1 rfl) ?_
              refine lv_iload hx hb dX7_stop_71 (lv_at hl 2 rfl) ?_
              refine lv_iload_n hx hb dX7_stop_73 rfl (lv_at hl 5 rfl) ?_
              refine lv_imul hx hb dX7_stop_74 ?_
              refine lv_iadd hx hb dX7_stop_75 ?_
              refine lv_istore (lv' := [(5, .int (((fi + 1) / 2) + ((nI nn) * a))), (4, .int (nI nn)), (3, .int ((fi + 1) / 2)), (6, .int (nI nn)), (0, .ref h), (1, .int a), (2, .int what)]) hx hb dX7_stop_76 hl (Nat.le_of_ble_eq_true rfl) rfl (fun ls hl => ?_)
              refine lv_iinc (v := nI (nn + 1)) (lv' := [(6, .int (nI (nn + 1))), (5, .int (((fi + 1) / 2) + ((nI nn) * a))), (4, .int (nI nn)), (3, .int ((fi + 1) / 2)), (0, .ref h), (1, .int a), (2, .int what)]) hx hb dX7_stop_78 hl (k := 3) rfl (nI_add (nn) 1) (Nat.le_of_ble_eq_true rfl) rfl (fun ls hl => ?_)
              refine lv_goto (tgt := 38) hx hb dX7_stop_81 rfl ?_
              exact ih38 ((fi + 1) / 2, nI nn, ((fi + 1) / 2) + ((nI nn) * a), nn + 1) (by (try dsimp only); first | omega | (refine ⟨?_, ?_⟩ <;> first | omega | assumption)) (by (try dsimp only); omega) _ _ _ hP hD hS (lv_sub hl [0, 1, 2, 3, 4, 5, 6] rfl)
      · (try dsimp only); first | omega | (refine ⟨?_, ?_⟩ <;> first | omega | assumption)
    · refine lv_iconst (v := (-1)) hx hb dX7_stop_19 hki_m1 ?_
      exact hs_iret hx hb hr hlocks hK hP hD hS () [0, 1, 2, 3, 4, 5, 6, 7, 8] rfl (hs_upnd rfl) dX7_stop_20 (trivial)

set_option maxHeartbeats 4000000 in
set_option maxRecDepth 100000 in
theorem gp_orders (l : Launch) (D : va_G) (k : Nat → ClassId) (sz : Nat) (h : Nat) (h_now : Nat) (h_trial : Nat) (h_images : Nat) (h_imageThere : Nat) (h_teller : Nat) (h_ranks : Nat) (h_court : Nat) (h_sheets : Nat) (h_lf : Int32) (h_lt : Int32) (n_a : Nat → Nat) (n_N : Nat → Nat) (n_J : Nat → Int32) (n_F : Nat → Nat → Int32) (q_ahead : Nat) (q_ways : Nat) (q_z : Nat) (af : Nat → Int32) (wf : Nat → Int32) (what : Int32) (hN0 : thN n_N) (hF : thF n_N n_F) (h2 : 2 ≤ n_N 0) : MI l yX7_orders wsX7_orders ({ frames := 3, cells := 0, slots := 0, locals := 68 }) D k [.ref h, .int what] [oq6 h h_now h_trial h_images h_imageThere h_teller h_ranks h_court h_sheets h_lf h_lt, oqT h_now n_a n_N n_J, oqF0 k n_a n_F, oqF1 k n_a n_F, oqF2 k n_a n_F, oqF3 k n_a n_F, oqF4 k n_a n_F, oqF5 k n_a n_F, oqF6 k n_a n_F, oq1 h_ranks q_ahead q_ways (nI q_z), oqI k q_ahead 5 (af), oqI k q_ways 32 (wf)] sz (fun (r : Int32) (u : (Nat → Int32) × (Nat → Int32)) => True) (fun (u : (Nat → Int32) × (Nat → Int32)) => [oq6 h h_now h_trial h_images h_imageThere h_teller h_ranks h_court h_sheets h_lf h_lt, oqT h_now n_a n_N n_J, oqF0 k n_a n_F, oqF1 k n_a n_F, oqF2 k n_a n_F, oqF3 k n_a n_F, oqF4 k n_a n_F, oqF5 k n_a n_F, oqF6 k n_a n_F, oq1 h_ranks q_ahead q_ways (nI (n_N 2)), oqI k q_ahead 5 (u.1), oqI k q_ways 32 (u.2)]) := by
  refine Met.ofW (cc := cX7_orders) (maxL := 2) (ret := (some .int)) hpn_X7 rfl ?_
  intro p e s m args below meth c s₁ B hml hv
  obtain ⟨rfl, hsz, hP, hK, hD0, hN⟩ := hv
  have hx := B.exec
  have hb := B.bytes
  have hr := B.returns
  have hlocks := B.notSynchronized
  have hts := atoms_spec (ws := wsX7_orders) B.pre
  have hown := findClass_of_methodNamed B.named
  have hown : s.vm.findClass RX7 = some m.cls := hown
  have hiX6 : ∀ w ∈ u_ws RX6 TX6 15, w ∈ wsX7_orders := fun w9 hw9 => List.mem_cons_of_mem _ (igX6 w9 hw9)
  have hiX7 : ∀ w ∈ u_ws RX7 TX7 10, w ∈ wsX7_orders := fun w9 hw9 => List.mem_cons_of_mem _ (igX7 w9 hw9)
  have fl37 := hts (.fieldLink RX7 37 "HalfScales" "ranks" "LHalfScales$Ranks;") (List.mem_cons_of_mem _ (hs_inG 1 220 rfl rfl))
  have fl10 := hts (.fieldLink RX7 10 "HalfScales" "now" "LHalfScales$Thing;") (List.mem_cons_of_mem _ (hs_inG 1 215 rfl rfl))
  have fl108 := hts (.fieldLink RX7 108 "HalfScales$Thing" "halfCount" "I") (List.mem_cons_of_mem _ (hs_inG 1 71 rfl rfl))
  have hNn := hN0
  obtain ⟨I0, I1, ⟨I2, I2b⟩, I3, I4⟩ := hN0
  subst hsz
  have hD := hD0.self (sz := s.heap.size)
  generalize hAe : va_A [oq6 h h_now h_trial h_images h_imageThere h_teller h_ranks h_court h_sheets h_lf h_lt, oqT h_now n_a n_N n_J, oqF0 k n_a n_F, oqF1 k n_a n_F, oqF2 k n_a n_F, oqF3 k n_a n_F, oqF4 k n_a n_F, oqF5 k n_a n_F, oqF6 k n_a n_F, oq1 h_ranks q_ahead q_ways (nI q_z), oqI k q_ahead 5 (af), oqI k q_ways 32 (wf)] s.heap.size = A at hD ⊢
  have hA : ∀ q : Nat, s.heap.size ≤ q → A q := fun q h => by rw [← hAe]; exact Or.inr h
  have hS : va_S A s.heap s.heap [] := va_S.rf
  have hl := lv_entry ([.ref h, .int what]) (n := 2) (Nat.le_of_ble_eq_true rfl)
  rw [lg_entry_eq]
  generalize (lg_sl ([.ref h, .int what]) ++ List.replicate (2 - (lg_sl ([.ref h, .int what])).length) Slot.unset).toArray = ls at hl ⊢
  have hl : lv_has ls 2 [(0, .ref h), (1, .int what)] := hl
  have hP : va_P D vwCl [oq6 h h_now h_trial h_images h_imageThere h_teller h_ranks h_court h_sheets h_lf h_lt, oqT h_now n_a n_N n_J, oqF0 k n_a n_F, oqF1 k n_a n_F, oqF2 k n_a n_F, oqF3 k n_a n_F, oqF4 k n_a n_F, oqF5 k n_a n_F, oqF6 k n_a n_F, oq1 h_ranks q_ahead q_ways (nI q_z), oqI k q_ahead 5 (af), oqI k q_ways 32 (wf)] s.heap := hP
  refine lv_aload_n hx hb dX7_orders_0 rfl (lv_at hl 0 rfl) ?_
  refine va_get (D := D) (ci := 6) (v := .ref h_ranks) (C := RX7) (T := TX7) (N := 10) hx hb hts hiX7 hown hK hP 0 rfl rfl 5 (Nat.le_of_ble_eq_true rfl) fl37 (fun _ h9 => h9) rfl dX7_orders_1 ?_
  refine lv_aload_n hx hb dX7_orders_4 rfl (lv_at hl 0 rfl) ?_
  refine va_get (D := D) (ci := 6) (v := .ref h_now) (C := RX7) (T := TX7) (N := 10) hx hb hts hiX7 hown hK hP 0 rfl rfl 0 (Nat.le_of_ble_eq_true rfl) fl10 (fun _ h9 => h9) rfl dX7_orders_5 ?_
  refine hs_cvM (va_runV (As := [.ref h_now]) (rest := []) ⟨hx, hb, hml, hown, hts⟩ (g_learn l D k _ h_ranks q_ahead q_ways q_z h_now n_a n_N n_J n_F af (by first | assumption | exact ⟨by first | omega | (dsimp; omega), by first | omega | (dsimp; omega), ⟨by first | omega | (dsimp; omega), by first | omega | (dsimp; omega)⟩, by first | omega | (dsimp; omega), by first | omega | (dsimp; omega)⟩) (by first | assumption | exact ⟨hF.1, hF.2⟩)) (cwV 1 hts gX7_orders_X2_learn rfl rfl rfl ⟨rfl, hq_X2_learn⟩ ⟨Nat.le_of_ble_eq_true rfl, Nat.le_of_ble_eq_true rfl⟩) (hs_preV hK hN (hs_subP (w := [_, _, _, _, _, _, _, _, _, _]) hP [9, 10, 1, 2, 3, 4, 5, 6, 7, 8] rfl) (hD.sub (ws' := [_, _, _, _, _, _, _, _, _, _]) [9, 10, 1, 2, 3, 4, 5, 6, 7, 8] (by decide +kernel) rfl) (ci := 1) (q0 := 0) rfl rfl) rfl rfl hl.1 rfl (lv_room (Nat.le_of_ble_eq_true rfl)) dX7_orders_8 ⟨Nat.le_of_ble_eq_true rfl, Nat.le_of_ble_eq_true rfl⟩) hP hD hS hA [true, false, false, false, false, false, false, false, false, false, false, true] [_, _] [_, _, _, _, _, _, _, _, _, _] rfl [8, 9, 0, 1, 2, 3, 4, 5, 6, 7] rfl [2, 3, 4, 5, 6, 7, 8, 9, 0, 1] (fun u_3 => [_, _, _, _, _, _, _, _, _, _]) (fun _ => rfl) (by decide +kernel) [true, false, false, false, false, false, false, false, false, false, false, true] (fun u_3 => [_, _, _, _, _, _, _, _, _, _, _, _]) (fun _ => rfl) (fun u_3 H locs hw_2 hP hD hS => ?_)
  refine lv_iload_n hx hb dX7_orders_11 rfl (lv_at hl 1 rfl) ?_
  refine lv_if_ne (tgt := 23) hx hb dX7_orders_12 rfl (fun c_4 => ?_) (fun c_4 => ?_)
  · refine lv_iload_n hx hb dX7_orders_23 rfl (lv_at hl 1 rfl) ?_
    refine lv_iconst (v := 1) hx hb dX7_orders_24 hki_1 ?_
    refine lv_icmp_ne (tgt := 36) hx hb dX7_orders_25 rfl (fun c_5 => ?_) (fun c_5 => ?_)
    · refine lv_iload_n hx hb dX7_orders_36 rfl (lv_at hl 1 rfl) ?_
      refine lv_iconst (v := 2) hx hb dX7_orders_37 hki_2 ?_
      refine lv_icmp_ne (tgt := 49) hx hb dX7_orders_38 rfl (fun c_6 => ?_) (fun c_6 => ?_)
      · refine lv_iload_n hx hb dX7_orders_49 rfl (lv_at hl 1 rfl) ?_
        refine lv_bipush (v := 10) hx hb dX7_orders_50 hkb_10 ?_
        refine lv_bipush (v := 9) hx hb dX7_orders_52 hkb_9 ?_
        refine lv_aload_n hx hb dX7_orders_54 rfl (lv_at hl 0 rfl) ?_
        refine va_get (D := D) (ci := 6) (v := .ref h_now) (C := RX7) (T := TX7) (N := 10) hx hb hts hiX7 hown hK hP 0 rfl rfl 0 (Nat.le_of_ble_eq_true rfl) fl10 (fun _ h9 => h9) rfl dX7_orders_55 ?_
        refine va_get (D := D) (ci := 5) (v := .int (nI (n_N 2))) (C := RX6) (T := TX6) (N := 15) hx hb hts hiX6 hown hK hP 1 rfl rfl 12 (Nat.le_of_ble_eq_true rfl) fl108 (fun _ h9 => h9) rfl dX7_orders_58 ?_
        refine lv_iadd hx hb dX7_orders_61 ?_
        refine hs_topi (nI (9 + (n_N 2))) (nI_add (9) ((n_N 2))) ?_
        refine hs_pi (va_runS (As := [.int what, .int 10, .int (nI (9 + (n_N 2)))]) (rest := []) ⟨hx, hb, hml, hown, hts⟩ (g_within l D k _ what 10 (nI (9 + (n_N 2)))) (va_cwS 3 hts gX7_orders_X7_within rfl rfl rfl hq_X7_within ⟨Nat.le_of_ble_eq_true rfl, Nat.le_of_ble_eq_true rfl⟩) (hs_preS hK hN (hs_subP (w := []) hP [] rfl) (hD.sub (ws' := []) [] rfl rfl)) rfl rfl hl.1 rfl (lv_room (Nat.le_of_ble_eq_true rfl)) dX7_orders_62 ⟨Nat.le_of_ble_eq_true rfl, Nat.le_of_ble_eq_true rfl⟩) hP hD hS hA (fun r_7 u_9 H locs hw_8 hP hS => ?_)
        refine hs_topi (hsb (hsin what 10 (nI (9 + (n_N 2))))) hw_8 ?_
        refine lv_if_eq (tgt := 82) hx hb dX7_orders_65 rfl (fun c_10 => ?_) (fun c_10 => ?_)
        · refine lv_iconst (v := (-1)) hx hb dX7_orders_82 hki_m1 ?_
          exact hs_iret hx hb hr hlocks hK hP hD hS (u_3, wf) [0, 1, 2, 3, 4, 5, 6, 7, 8, 9, 10, 11] rfl (hs_upnd rfl) dX7_orders_83 (trivial)
        · obtain ⟨j_11, hj_11, hj_11b, rfl⟩ := hs_rng (lo := 10) (hi := (9 + (n_N 2))) (by omega) (by omega) (hs_nb c_10)
          refine lv_aload_n hx hb dX7_orders_68 rfl (lv_at hl 0 rfl) ?_
          refine va_get (D := D) (ci := 6) (v := .ref h_ranks) (C := RX7) (T := TX7) (N := 10) hx hb hts hiX7 hown hK hP 0 rfl rfl 5 (Nat.le_of_ble_eq_true rfl) fl37 (fun _ h9 => h9) rfl dX7_orders_69 ?_
          refine lv_iload_n hx hb dX7_orders_72 rfl (lv_at hl 1 rfl) ?_
          refine lv_bipush (v := 10) hx hb dX7_orders_73 hkb_10 ?_
          refine lv_isub hx hb dX7_orders_75 ?_
          refine hs_topi (nI (j_11 - 10)) (pk_sub (a := j_11) (b := 10) (by omega)) ?_
          refine hs_ciM (va_runV (As := [.int (nI (j_11 - 10))]) (rest := []) ⟨hx, hb, hml, hown, hts⟩ (g_ofFirst l D k _ h_ranks q_ahead q_ways (n_N 2) (j_11 - 10) u_3 (by omega) (by omega)) (cwV 1 hts gX7_orders_X2_ofFirst rfl rfl rfl ⟨rfl, hq_X2_ofFirst⟩ ⟨Nat.le_of_ble_eq_true rfl, Nat.le_of_ble_eq_true rfl⟩) (hs_preV hK hN (hs_subP (w := [_, _]) hP [9, 10] rfl) (hD.sub (ws' := [_, _]) [9, 10] (hs_upnd rfl) rfl) (ci := 1) (q0 := 0) rfl rfl) rfl rfl hl.1 rfl (lv_room (Nat.le_of_ble_eq_true rfl)) dX7_orders_76 ⟨Nat.le_of_ble_eq_true rfl, Nat.le_of_ble_eq_true rfl⟩) hP hD hS hA [true, true, true, true, true, true, true, true, true, false, false, true] [_, _, _, _, _, _, _, _, _, _] [_, _] rfl [0, 1] rfl [0, 1] (fun u_14 => [_, _]) (fun _ => rfl) (hs_upnd rfl) [true, true, true, true, true, true, true, true, true, false, false, true] (fun u_14 => [_, _, _, _, _, _, _, _, _, _, _, _]) (fun _ => rfl) (fun r_12 u_14 H locs hw_13 hP hD hS => ?_)
          refine lv_goto (tgt := 83) hx hb dX7_orders_79 rfl ?_
          exact hs_iret hx hb hr hlocks hK hP hD hS (u_3, wf) [0, 1, 2, 3, 4, 5, 6, 7, 8, 9, 10, 11] rfl (hs_upnd rfl) dX7_orders_83 (trivial)
      · subst c_6
        refine lv_aload_n hx hb dX7_orders_41 rfl (lv_at hl 0 rfl) ?_
        refine va_get (D := D) (ci := 6) (v := .ref h_ranks) (C := RX7) (T := TX7) (N := 10) hx hb hts hiX7 hown hK hP 0 rfl rfl 5 (Nat.le_of_ble_eq_true rfl) fl37 (fun _ h9 => h9) rfl dX7_orders_42 ?_
        refine hs_ciM (va_runV (As := []) (rest := []) ⟨hx, hb, hml, hown, hts⟩ (g_heaviest l D k _ h_ranks q_ahead q_ways (n_N 2) u_3 (by omega)) (cwV 0 hts gX7_orders_X2_heaviest rfl rfl rfl ⟨rfl, hq_X2_heaviest⟩ ⟨Nat.le_of_ble_eq_true rfl, Nat.le_of_ble_eq_true rfl⟩) (hs_preV hK hN (hs_subP (w := [_, _]) hP [9, 10] rfl) (hD.sub (ws' := [_, _]) [9, 10] (hs_upnd rfl) rfl) (ci := 1) (q0 := 0) rfl rfl) rfl rfl hl.1 rfl (lv_room (Nat.le_of_ble_eq_true rfl)) dX7_orders_45 ⟨Nat.le_of_ble_eq_true rfl, Nat.le_of_ble_eq_true rfl⟩) hP hD hS hA [true, true, true, true, true, true, true, true, true, false, false, true] [_, _, _, _, _, _, _, _, _, _] [_, _] rfl [0, 1] rfl [0, 1] (fun u_17 => [_, _]) (fun _ => rfl) (hs_upnd rfl) [true, true, true, true, true, true, true, true, true, false, false, true] (fun u_17 => [_, _, _, _, _, _, _, _, _, _, _, _]) (fun _ => rfl) (fun r_15 u_17 H locs hw_16 hP hD hS => ?_)
        exact hs_iret hx hb hr hlocks hK hP hD hS (u_3, wf) [0, 1, 2, 3, 4, 5, 6, 7, 8, 9, 10, 11] rfl (hs_upnd rfl) dX7_orders_48 (trivial)
    · subst c_5
      refine lv_aload_n hx hb dX7_orders_28 rfl (lv_at hl 0 rfl) ?_
      refine va_get (D := D) (ci := 6) (v := .ref h_ranks) (C := RX7) (T := TX7) (N := 10) hx hb hts hiX7 hown hK hP 0 rfl rfl 5 (Nat.le_of_ble_eq_true rfl) fl37 (fun _ h9 => h9) rfl dX7_orders_29 ?_
      refine hs_ciM (va_runV (As := []) (rest := []) ⟨hx, hb, hml, hown, hts⟩ (g_lightest l D k _ h_ranks q_ahead q_ways (n_N 2) u_3 (by omega)) (cwV 0 hts gX7_orders_X2_lightest rfl rfl rfl ⟨rfl, hq_X2_lightest⟩ ⟨Nat.le_of_ble_eq_true rfl, Nat.le_of_ble_eq_true rfl⟩) (hs_preV hK hN (hs_subP (w := [_, _]) hP [9, 10] rfl) (hD.sub (ws' := [_, _]) [9, 10] (hs_upnd rfl) rfl) (ci := 1) (q0 := 0) rfl rfl) rfl rfl hl.1 rfl (lv_room (Nat.le_of_ble_eq_true rfl)) dX7_orders_32 ⟨Nat.le_of_ble_eq_true rfl, Nat.le_of_ble_eq_true rfl⟩) hP hD hS hA [true, true, true, true, true, true, true, true, true, false, false, true] [_, _, _, _, _, _, _, _, _, _] [_, _] rfl [0, 1] rfl [0, 1] (fun u_20 => [_, _]) (fun _ => rfl) (hs_upnd rfl) [true, true, true, true, true, true, true, true, true, false, false, true] (fun u_20 => [_, _, _, _, _, _, _, _, _, _, _, _]) (fun _ => rfl) (fun r_18 u_20 H locs hw_19 hP hD hS => ?_)
      exact hs_iret hx hb hr hlocks hK hP hD hS (u_3, wf) [0, 1, 2, 3, 4, 5, 6, 7, 8, 9, 10, 11] rfl (hs_upnd rfl) dX7_orders_35 (trivial)
  · subst c_4
    refine lv_aload_n hx hb dX7_orders_15 rfl (lv_at hl 0 rfl) ?_
    refine va_get (D := D) (ci := 6) (v := .ref h_ranks) (C := RX7) (T := TX7) (N := 10) hx hb hts hiX7 hown hK hP 0 rfl rfl 5 (Nat.le_of_ble_eq_true rfl) fl37 (fun _ h9 => h9) rfl dX7_orders_16 ?_
    refine hs_ciM (va_runV (As := []) (rest := []) ⟨hx, hb, hml, hown, hts⟩ (g_howMany l D k _ h_ranks q_ahead q_ways (n_N 2) u_3 wf (by omega)) (cwV 0 hts gX7_orders_X2_howMany rfl rfl rfl ⟨rfl, hq_X2_howMany⟩ ⟨Nat.le_of_ble_eq_true rfl, Nat.le_of_ble_eq_true rfl⟩) (hs_preV hK hN (hs_subP (w := [_, _, _]) hP [9, 10, 11] rfl) (hD.sub (ws' := [_, _, _]) [9, 10, 11] (hs_upnd rfl) rfl) (ci := 1) (q0 := 0) rfl rfl) rfl rfl hl.1 rfl (lv_room (Nat.le_of_ble_eq_true rfl)) dX7_orders_19 ⟨Nat.le_of_ble_eq_true rfl, Nat.le_of_ble_eq_true rfl⟩) hP hD hS hA [true, true, true, true, true, true, true, true, true, false, false, false] [_, _, _, _, _, _, _, _, _] [_, _, _] rfl [0, 1, 2] rfl [0, 1, 2] (fun u_23 => [_, _, _]) (fun _ => rfl) (hs_upnd rfl) [true, true, true, true, true, true, true, true, true, false, false, false] (fun u_23 => [_, _, _, _, _, _, _, _, _, _, _, _]) (fun _ => rfl) (fun r_21 u_23 H locs hw_22 hP hD hS => ?_)
    exact hs_iret hx hb hr hlocks hK hP hD hS (u_3, u_23) [0, 1, 2, 3, 4, 5, 6, 7, 8, 9, 10, 11] rfl (hs_upnd rfl) dX7_orders_22 (trivial)

set_option maxHeartbeats 4000000 in
set_option maxRecDepth 100000 in
theorem gp_next (l : Launch) (D : va_G) (k : Nat → ClassId) (sz : Nat) (h : Nat) (h_now : Nat) (h_trial : Nat) (h_images : Nat) (h_imageThere : Nat) (h_teller : Nat) (h_ranks : Nat) (h_court : Nat) (h_sheets : Nat) (h_lf : Int32) (h_lt : Int32) (n_a : Nat → Nat) (n_N : Nat → Nat) (n_J : Nat → Int32) (n_F : Nat → Nat → Int32) (q_ahead : Nat) (q_ways : Nat) (q_z : Nat) (af : Nat → Int32) (wf : Nat → Int32) (what : Int32) (hN0 : thN n_N) (hF : thF n_N n_F) (h2 : 2 ≤ n_N 0) : MI l yX7_next wsX7_next ({ frames := 3, cells := 0, slots := 0, locals := 71 }) D k [.ref h, .int what] [oq6 h h_now h_trial h_images h_imageThere h_teller h_ranks h_court h_sheets h_lf h_lt, oqT h_now n_a n_N n_J, oqF0 k n_a n_F, oqF1 k n_a n_F, oqF2 k n_a n_F, oqF3 k n_a n_F, oqF4 k n_a n_F, oqF5 k n_a n_F, oqF6 k n_a n_F, oq1 h_ranks q_ahead q_ways (nI q_z), oqI k q_ahead 5 (af), oqI k q_ways 32 (wf)] sz (fun (r : Int32) (u : Nat × (Nat → Int32) × (Nat → Int32)) => u.1 = n_N 2 ∨ u.1 = q_z) (fun (u : Nat × (Nat → Int32) × (Nat → Int32)) => [oq6 h h_now h_trial h_images h_imageThere h_teller h_ranks h_court h_sheets h_lf h_lt, oqT h_now n_a n_N n_J, oqF0 k n_a n_F, oqF1 k n_a n_F, oqF2 k n_a n_F, oqF3 k n_a n_F, oqF4 k n_a n_F, oqF5 k n_a n_F, oqF6 k n_a n_F, oq1 h_ranks q_ahead q_ways (nI (u.1)), oqI k q_ahead 5 (u.2.1), oqI k q_ways 32 (u.2.2)]) := by
  refine Met.ofW (cc := cX7_next) (maxL := 7) (ret := (some .int)) hpn_X7 rfl ?_
  intro p e s m args below meth c s₁ B hml hv
  obtain ⟨rfl, hsz, hP, hK, hD0, hN⟩ := hv
  have hx := B.exec
  have hb := B.bytes
  have hr := B.returns
  have hlocks := B.notSynchronized
  have hts := atoms_spec (ws := wsX7_next) B.pre
  have hown := findClass_of_methodNamed B.named
  have hown : s.vm.findClass RX7 = some m.cls := hown
  have hiX6 : ∀ w ∈ u_ws RX6 TX6 15, w ∈ wsX7_next := fun w9 hw9 => List.mem_cons_of_mem _ (igX6 w9 hw9)
  have hiX7 : ∀ w ∈ u_ws RX7 TX7 10, w ∈ wsX7_next := fun w9 hw9 => List.mem_cons_of_mem _ (igX7 w9 hw9)
  have fl37 := hts (.fieldLink RX7 37 "HalfScales" "ranks" "LHalfScales$Ranks;") (List.mem_cons_of_mem _ (hs_inG 1 220 rfl rfl))
  have fl10 := hts (.fieldLink RX7 10 "HalfScales" "now" "LHalfScales$Thing;") (List.mem_cons_of_mem _ (hs_inG 1 215 rfl rfl))
  have fl108 := hts (.fieldLink RX7 108 "HalfScales$Thing" "halfCount" "I") (List.mem_cons_of_mem _ (hs_inG 1 71 rfl rfl))
  have mm227 := hts (.methodLink RX7 227 Lib.Math.max.name) (List.mem_cons_of_mem _ (hs_inG 3 173 rfl rfl))
  have msmax := hts (.static Lib.Math.max.name) (List.mem_cons_of_mem _ (hs_inG 3 174 rfl rfl))
  have mi := hts (.initialized "java/lang/Math") (List.mem_cons_of_mem _ (hs_inG 1 14 rfl rfl))
  have mcmax := hts (.code Lib.Math.max.name Lib.Math.max.code 2 (some .int)) (List.mem_cons_of_mem _ (hs_inG 3 175 rfl rfl))
  have hNn := hN0
  obtain ⟨I0, I1, ⟨I2, I2b⟩, I3, I4⟩ := hN0
  subst hsz
  have hD := hD0.self (sz := s.heap.size)
  generalize hAe : va_A [oq6 h h_now h_trial h_images h_imageThere h_teller h_ranks h_court h_sheets h_lf h_lt, oqT h_now n_a n_N n_J, oqF0 k n_a n_F, oqF1 k n_a n_F, oqF2 k n_a n_F, oqF3 k n_a n_F, oqF4 k n_a n_F, oqF5 k n_a n_F, oqF6 k n_a n_F, oq1 h_ranks q_ahead q_ways (nI q_z), oqI k q_ahead 5 (af), oqI k q_ways 32 (wf)] s.heap.size = A at hD ⊢
  have hA : ∀ q : Nat, s.heap.size ≤ q → A q := fun q h => by rw [← hAe]; exact Or.inr h
  have hS : va_S A s.heap s.heap [] := va_S.rf
  have hl := lv_entry ([.ref h, .int what]) (n := 7) (Nat.le_of_ble_eq_true rfl)
  rw [lg_entry_eq]
  generalize (lg_sl ([.ref h, .int what]) ++ List.replicate (7 - (lg_sl ([.ref h, .int what])).length) Slot.unset).toArray = ls at hl ⊢
  have hl : lv_has ls 7 [(0, .ref h), (1, .int what)] := hl
  have hP : va_P D vwCl [oq6 h h_now h_trial h_images h_imageThere h_teller h_ranks h_court h_sheets h_lf h_lt, oqT h_now n_a n_N n_J, oqF0 k n_a n_F, oqF1 k n_a n_F, oqF2 k n_a n_F, oqF3 k n_a n_F, oqF4 k n_a n_F, oqF5 k n_a n_F, oqF6 k n_a n_F, oq1 h_ranks q_ahead q_ways (nI q_z), oqI k q_ahead 5 (af), oqI k q_ways 32 (wf)] s.heap := hP
  refine lv_iload_n hx hb dX7_next_0 rfl (lv_at hl 1 rfl) ?_
  refine lv_iconst (v := 0) hx hb dX7_next_1 hki_0 ?_
  refine lv_iconst (v := 1) hx hb dX7_next_2 hki_1 ?_
  refine hs_pi (va_runS (As := [.int what, .int 0, .int 1]) (rest := []) ⟨hx, hb, hml, hown, hts⟩ (g_within l D k _ what 0 1) (va_cwS 3 hts gX7_next_X7_within rfl rfl rfl hq_X7_within ⟨Nat.le_of_ble_eq_true rfl, Nat.le_of_ble_eq_true rfl⟩) (hs_preS hK hN (hs_subP (w := []) hP [] rfl) (hD.sub (ws' := []) [] rfl rfl)) rfl rfl hl.1 rfl (lv_room (Nat.le_of_ble_eq_true rfl)) dX7_next_3 ⟨Nat.le_of_ble_eq_true rfl, Nat.le_of_ble_eq_true rfl⟩) hP hD hS hA (fun r_1 u_3 H locs hw_2 hP hS => ?_)
  refine hs_topi (hsb (hsin what 0 1)) hw_2 ?_
  refine lv_if_ne (tgt := 11) hx hb dX7_next_6 rfl (fun c_4 => ?_) (fun c_4 => ?_)
  · refine lv_aload_n hx hb dX7_next_11 rfl (lv_at hl 0 rfl) ?_
    refine va_get (D := D) (ci := 6) (v := .ref h_ranks) (C := RX7) (T := TX7) (N := 10) hx hb hts hiX7 hown hK hP 0 rfl rfl 5 (Nat.le_of_ble_eq_true rfl) fl37 (fun _ h9 => h9) rfl dX7_next_12 ?_
    refine lv_aload_n hx hb dX7_next_15 rfl (lv_at hl 0 rfl) ?_
    refine va_get (D := D) (ci := 6) (v := .ref h_now) (C := RX7) (T := TX7) (N := 10) hx hb hts hiX7 hown hK hP 0 rfl rfl 0 (Nat.le_of_ble_eq_true rfl) fl10 (fun _ h9 => h9) rfl dX7_next_16 ?_
    refine hs_cvM (va_runV (As := [.ref h_now]) (rest := []) ⟨hx, hb, hml, hown, hts⟩ (g_learn l D k _ h_ranks q_ahead q_ways q_z h_now n_a n_N n_J n_F af (by first | assumption | exact ⟨by first | omega | (dsimp; omega), by first | omega | (dsimp; omega), ⟨by first | omega | (dsimp; omega), by first | omega | (dsimp; omega)⟩, by first | omega | (dsimp; omega), by first | omega | (dsimp; omega)⟩) (by first | assumption | exact ⟨hF.1, hF.2⟩)) (cwV 1 hts gX7_next_X2_learn rfl rfl rfl ⟨rfl, hq_X2_learn⟩ ⟨Nat.le_of_ble_eq_true rfl, Nat.le_of_ble_eq_true rfl⟩) (hs_preV hK hN (hs_subP (w := [_, _, _, _, _, _, _, _, _, _]) hP [9, 10, 1, 2, 3, 4, 5, 6, 7, 8] rfl) (hD.sub (ws' := [_, _, _, _, _, _, _, _, _, _]) [9, 10, 1, 2, 3, 4, 5, 6, 7, 8] (by decide +kernel) rfl) (ci := 1) (q0 := 0) rfl rfl) rfl rfl hl.1 rfl (lv_room (Nat.le_of_ble_eq_true rfl)) dX7_next_19 ⟨Nat.le_of_ble_eq_true rfl, Nat.le_of_ble_eq_true rfl⟩) hP hD hS hA [true, false, false, false, false, false, false, false, false, false, false, true] [_, _] [_, _, _, _, _, _, _, _, _, _] rfl [8, 9, 0, 1, 2, 3, 4, 5, 6, 7] rfl [2, 3, 4, 5, 6, 7, 8, 9, 0, 1] (fun u_7 => [_, _, _, _, _, _, _, _, _, _]) (fun _ => rfl) (by decide +kernel) [true, false, false, false, false, false, false, false, false, false, false, true] (fun u_7 => [_, _, _, _, _, _, _, _, _, _, _, _]) (fun _ => rfl) (fun u_7 H locs hw_6 hP hD hS => ?_)
    refine lv_aload_n hx hb dX7_next_22 rfl (lv_at hl 0 rfl) ?_
    refine va_get (D := D) (ci := 6) (v := .ref h_ranks) (C := RX7) (T := TX7) (N := 10) hx hb hts hiX7 hown hK hP 0 rfl rfl 5 (Nat.le_of_ble_eq_true rfl) fl37 (fun _ h9 => h9) rfl dX7_next_23 ?_
    refine hs_ciM (va_runV (As := []) (rest := []) ⟨hx, hb, hml, hown, hts⟩ (g_howMany l D k _ h_ranks q_ahead q_ways (n_N 2) u_7 wf (by omega)) (cwV 0 hts gX7_next_X2_howMany rfl rfl rfl ⟨rfl, hq_X2_howMany⟩ ⟨Nat.le_of_ble_eq_true rfl, Nat.le_of_ble_eq_true rfl⟩) (hs_preV hK hN (hs_subP (w := [_, _, _]) hP [9, 10, 11] rfl) (hD.sub (ws' := [_, _, _]) [9, 10, 11] (hs_upnd rfl) rfl) (ci := 1) (q0 := 0) rfl rfl) rfl rfl hl.1 rfl (lv_room (Nat.le_of_ble_eq_true rfl)) dX7_next_26 ⟨Nat.le_of_ble_eq_true rfl, Nat.le_of_ble_eq_true rfl⟩) hP hD hS hA [true, true, true, true, true, true, true, true, true, false, false, false] [_, _, _, _, _, _, _, _, _] [_, _, _] rfl [0, 1, 2] rfl [0, 1, 2] (fun u_10 => [_, _, _]) (fun _ => rfl) (hs_upnd rfl) [true, true, true, true, true, true, true, true, true, false, false, false] (fun u_10 => [_, _, _, _, _, _, _, _, _, _, _, _]) (fun _ => rfl) (fun r_8 u_10 H locs hw_9 hP hD hS => ?_)
    refine lv_istore_n (lv' := [(2, .int r_8), (0, .ref h), (1, .int what)]) hx hb dX7_next_29 rfl hl (Nat.le_of_ble_eq_true rfl) rfl (fun ls hl => ?_)
    refine lv_bipush (v := (-4)) hx hb dX7_next_30 hkb_m4 ?_
    refine lv_istore_n (lv' := [(3, .int (-4)), (2, .int r_8), (0, .ref h), (1, .int what)]) hx hb dX7_next_32 rfl hl (Nat.le_of_ble_eq_true rfl) rfl (fun ls hl => ?_)
    refine lv_iconst (v := 0) hx hb dX7_next_33 hki_0 ?_
    refine lv_istore (lv' := [(4, .int 0), (3, .int (-4)), (2, .int r_8), (0, .ref h), (1, .int what)]) hx hb dX7_next_34 hl (Nat.le_of_ble_eq_true rfl) rfl (fun ls hl => ?_)
    refine hs_while (σ := Int32 × Int32 × Nat × (Nat → Int32) × (Nat → Int32)) (fun x => x.2.2.1 ≤ n_N 2) (fun x => n_N 2 - x.2.2.1) (fun x => [oq6 h h_now h_trial h_images h_imageThere h_teller h_ranks h_court h_sheets h_lf h_lt, oqT h_now n_a n_N n_J, oqF0 k n_a n_F, oqF1 k n_a n_F, oqF2 k n_a n_F, oqF3 k n_a n_F, oqF4 k n_a n_F, oqF5 k n_a n_F, oqF6 k n_a n_F, oq1 h_ranks q_ahead q_ways (nI (n_N 2)), oqI k q_ahead 5 ((x.2.2.2.1)), oqI k q_ways 32 ((x.2.2.2.2))]) (fun x => [(4, .int (nI (x.2.2.1))), (3, .int (x.2.1)), (2, .int (x.1)), (0, .ref h), (1, .int what)]) ?_ (r_8, (-4), 0, u_7, u_10) ?_ hP hD hS hl
    · intro x hI ih36 H locs ls hP hD hS hl
      obtain ⟨le, be, x1, af1, wf1⟩ := x
      try dsimp only at hI
      have hP : va_P D vwCl [_, _, _, _, _, _, _, _, _, _, oqI k q_ahead 5 (af1), oqI k q_ways 32 (wf1)] H := hP
      have hD : va_D A [_, _, _, _, _, _, _, _, _, _, oqI k q_ahead 5 (af1), oqI k q_ways 32 (wf1)] := hD
      have hl : lv_has ls 7 [(4, .int (nI x1)), (3, .int be), (2, .int le), (0, .ref h), (1, .int what)] := hl
      refine lv_iload hx hb dX7_next_36 (lv_at hl 0 rfl) ?_
      refine lv_aload_n hx hb dX7_next_38 rfl (lv_at hl 3 rfl) ?_
      refine va_get (D := D) (ci := 6) (v := .ref h_now) (C := RX7) (T := TX7) (N := 10) hx hb hts hiX7 hown hK hP 0 rfl rfl 0 (Nat.le_of_ble_eq_true rfl) fl10 (fun _ h9 => h9) rfl dX7_next_39 ?_
      refine va_get (D := D) (ci := 5) (v := .int (nI (n_N 2))) (C := RX6) (T := TX6) (N := 15) hx hb hts hiX6 hown hK hP 1 rfl rfl 12 (Nat.le_of_ble_eq_true rfl) fl108 (fun _ h9 => h9) rfl dX7_next_42 ?_
      refine lv_icmp_ge (tgt := 123) hx hb dX7_next_45 rfl (fun c_11 => ?_) (fun c_11 => ?_)
      · have nc_11 : (n_N 2) ≤ x1 := (nI_leI (a := (n_N 2)) (b := x1) (by omega) (by omega)).mp c_11
        refine lv_iload_n hx hb dX7_next_123 rfl (lv_at hl 4 rfl) ?_
        refine lv_if_eq (tgt := 133) hx hb dX7_next_124 rfl (fun c_12 => ?_) (fun c_12 => ?_)
        · refine lv_iload_n hx hb dX7_next_133 rfl (lv_at hl 1 rfl) ?_
          refine lv_goto (tgt := 138) hx hb dX7_next_134 rfl ?_
          exact hs_iret hx hb hr hlocks hK hP hD hS (n_N 2, af1, wf1) [0, 1, 2, 3, 4, 5, 6, 7, 8, 9, 10, 11] rfl (hs_upnd rfl) dX7_next_138 (by (try dsimp only); first | exact Or.inl rfl | exact Or.inr rfl)
        · refine lv_iload_n hx hb dX7_next_127 rfl (lv_at hl 1 rfl) ?_
          refine lv_bipush (v := (-4)) hx hb dX7_next_128 hkb_m4 ?_
          refine lv_icmp_ne (tgt := 137) hx hb dX7_next_130 rfl (fun c_13 => ?_) (fun c_13 => ?_)
          · refine lv_iload_n hx hb dX7_next_137 rfl (lv_at hl 2 rfl) ?_
            exact hs_iret hx hb hr hlocks hK hP hD hS (n_N 2, af1, wf1) [0, 1, 2, 3, 4, 5, 6, 7, 8, 9, 10, 11] rfl (hs_upnd rfl) dX7_next_138 (by (try dsimp only); first | exact Or.inl rfl | exact Or.inr rfl)
          · refine lv_iload_n hx hb dX7_next_133 rfl (lv_at hl 1 rfl) ?_
            refine lv_goto (tgt := 138) hx hb dX7_next_134 rfl ?_
            exact hs_iret hx hb hr hlocks hK hP hD hS (n_N 2, af1, wf1) [0, 1, 2, 3, 4, 5, 6, 7, 8, 9, 10, 11] rfl (hs_upnd rfl) dX7_next_138 (by (try dsimp only); first | exact Or.inl rfl | exact Or.inr rfl)
      · have nc_11 : ¬ (n_N 2) ≤ x1 := fun hq9 => c_11 ((nI_leI (a := (n_N 2)) (b := x1) (by omega) (by omega)).mpr hq9)
        refine lv_iload hx hb dX7_next_48 (lv_at hl 0 rfl) ?_
        refine lv_iconst (v := 1) hx hb dX7_next_50 hki_1 ?_
        refine lv_iadd hx hb dX7_next_51 ?_
        refine hs_topi (nI (x1 + 1)) (nI_add (x1) (1)) ?_
        refine lv_istore (lv' := [(5, .int (nI (x1 + 1))), (4, .int (nI x1)), (3, .int be), (2, .int le), (0, .ref h), (1, .int what)]) hx hb dX7_next_52 hl (Nat.le_of_ble_eq_true rfl) rfl (fun ls hl => ?_)
        refine hs_while (σ := Int32 × Int32 × Nat × (Nat → Int32) × (Nat → Int32)) (fun x => x.2.2.1 ≤ n_N 2) (fun x => n_N 2 - x.2.2.1) (fun x => [oq6 h h_now h_trial h_images h_imageThere h_teller h_ranks h_court h_sheets h_lf h_lt, oqT h_now n_a n_N n_J, oqF0 k n_a n_F, oqF1 k n_a n_F, oqF2 k n_a n_F, oqF3 k n_a n_F, oqF4 k n_a n_F, oqF5 k n_a n_F, oqF6 k n_a n_F, oq1 h_ranks q_ahead q_ways (nI (n_N 2)), oqI k q_ahead 5 ((x.2.2.2.1)), oqI k q_ways 32 ((x.2.2.2.2))]) (fun x => [(5, .int (nI (x.2.2.1))), (4, .int (nI x1)), (3, .int (x.2.1)), (2, .int (x.1)), (0, .ref h), (1, .int what)]) ?_ (le, be, x1 + 1, af1, wf1) ?_ hP hD hS hl
        · intro x hI ih54 H locs ls hP hD hS hl
          obtain ⟨le2, be2, x2, af2, wf2⟩ := x
          try dsimp only at hI
          have hP : va_P D vwCl [_, _, _, _, _, _, _, _, _, _, oqI k q_ahead 5 (af2), oqI k q_ways 32 (wf2)] H := hP
          have hD : va_D A [_, _, _, _, _, _, _, _, _, _, oqI k q_ahead 5 (af2), oqI k q_ways 32 (wf2)] := hD
          have hl : lv_has ls 7 [(5, .int (nI x2)), (4, .int (nI x1)), (3, .int be2), (2, .int le2), (0, .ref h), (1, .int what)] := hl
          refine lv_iload hx hb dX7_next_54 (lv_at hl 0 rfl) ?_
          refine lv_aload_n hx hb dX7_next_56 rfl (lv_at hl 4 rfl) ?_
          refine va_get (D := D) (ci := 6) (v := .ref h_now) (C := RX7) (T := TX7) (N := 10) hx hb hts hiX7 hown hK hP 0 rfl rfl 0 (Nat.le_of_ble_eq_true rfl) fl10 (fun _ h9 => h9) rfl dX7_next_57 ?_
          refine va_get (D := D) (ci := 5) (v := .int (nI (n_N 2))) (C := RX6) (T := TX6) (N := 15) hx hb hts hiX6 hown hK hP 1 rfl rfl 12 (Nat.le_of_ble_eq_true rfl) fl108 (fun _ h9 => h9) rfl dX7_next_60 ?_
          refine lv_icmp_ge (tgt := 117) hx hb dX7_next_63 rfl (fun c_14 => ?_) (fun c_14 => ?_)
          · have nc_14 : (n_N 2) ≤ x2 := (nI_leI (a := (n_N 2)) (b := x2) (by omega) (by omega)).mp c_14
            refine lv_iinc (v := nI (x1 + 1)) (lv' := [(4, .int (nI (x1 + 1))), (5, .int (nI x2)), (3, .int be2), (2, .int le2), (0, .ref h), (1, .int what)]) hx hb dX7_next_117 hl (k := 1) rfl (nI_add (x1) 1) (Nat.le_of_ble_eq_true rfl) rfl (fun ls hl => ?_)
            refine lv_goto (tgt := 36) hx hb dX7_next_120 rfl ?_
            exact ih36 (le2, be2, x1 + 1, af2, wf2) (by (try dsimp only); first | omega | (refine ⟨?_, ?_⟩ <;> first | omega | assumption)) (by (try dsimp only); omega) _ _ _ hP hD hS (lv_sub hl [0, 2, 3, 4, 5] rfl)
          · have nc_14 : ¬ (n_N 2) ≤ x2 := fun hq9 => c_14 ((nI_leI (a := (n_N 2)) (b := x2) (by omega) (by omega)).mpr hq9)
            refine lv_aload_n hx hb dX7_next_66 rfl (lv_at hl 4 rfl) ?_
            refine va_get (D := D) (ci := 6) (v := .ref h_ranks) (C := RX7) (T := TX7) (N := 10) hx hb hts hiX7 hown hK hP 0 rfl rfl 5 (Nat.le_of_ble_eq_true rfl) fl37 (fun _ h9 => h9) rfl dX7_next_67 ?_
            refine lv_iload hx hb dX7_next_70 (lv_at hl 1 rfl) ?_
            refine lv_iload hx hb dX7_next_72 (lv_at hl 0 rfl) ?_
            refine hs_ciM (va_runV (As := [.int (nI x1), .int (nI x2)]) (rest := []) ⟨hx, hb, hml, hown, hts⟩ (g_howManyWith l D k _ h_ranks q_ahead q_ways (n_N 2) (nI x1) x2 af2 wf2 (by omega) (by omega)) (cwV 2 hts gX7_next_X2_howManyWith rfl rfl rfl ⟨rfl, hq_X2_howManyWith⟩ ⟨Nat.le_of_ble_eq_true rfl, Nat.le_of_ble_eq_true rfl⟩) (hs_preV hK hN (hs_subP (w := [_, _, _]) hP [9, 10, 11] rfl) (hD.sub (ws' := [_, _, _]) [9, 10, 11] (hs_upnd rfl) rfl) (ci := 1) (q0 := 0) rfl rfl) rfl rfl hl.1 rfl (lv_room (Nat.le_of_ble_eq_true rfl)) dX7_next_74 ⟨Nat.le_of_ble_eq_true rfl, Nat.le_of_ble_eq_true rfl⟩) hP hD hS hA [true, true, true, true, true, true, true, true, true, false, false, false] [_, _, _, _, _, _, _, _, _] [_, _, _] rfl [0, 1, 2] rfl [0, 1, 2] (fun u_17 => [_, _, _]) (fun _ => rfl) (hs_upnd rfl) [true, true, true, true, true, true, true, true, true, false, false, false] (fun u_17 => [_, _, _, _, _, _, _, _, _, _, _, _]) (fun _ => rfl) (fun r_15 u_17 H locs hw_16 hP hD hS => ?_)
            refine lv_aload_n hx hb dX7_next_77 rfl (lv_at hl 4 rfl) ?_
            refine va_get (D := D) (ci := 6) (v := .ref h_ranks) (C := RX7) (T := TX7) (N := 10) hx hb hts hiX7 hown hK hP 0 rfl rfl 5 (Nat.le_of_ble_eq_true rfl) fl37 (fun _ h9 => h9) rfl dX7_next_78 ?_
            refine lv_iload hx hb dX7_next_81 (lv_at hl 0 rfl) ?_
            refine lv_iload hx hb dX7_next_83 (lv_at hl 1 rfl) ?_
            refine hs_ciM (va_runV (As := [.int (nI x2), .int (nI x1)]) (rest := [.int r_15]) ⟨hx, hb, hml, hown, hts⟩ (g_howManyWith l D k _ h_ranks q_ahead q_ways (n_N 2) (nI x2) x1 u_17.1 u_17.2 (by omega) (by omega)) (cwV 2 hts gX7_next_X2_howManyWith rfl rfl rfl ⟨rfl, hq_X2_howManyWith⟩ ⟨Nat.le_of_ble_eq_true rfl, Nat.le_of_ble_eq_true rfl⟩) (hs_preV hK hN (hs_subP (w := [_, _, _]) hP [9, 10, 11] rfl) (hD.sub (ws' := [_, _, _]) [9, 10, 11] (hs_upnd rfl) rfl) (ci := 1) (q0 := 0) rfl rfl) rfl rfl hl.1 rfl (lv_room (Nat.le_of_ble_eq_true rfl)) dX7_next_85 ⟨Nat.le_of_ble_eq_true rfl, Nat.le_of_ble_eq_true rfl⟩) hP hD hS hA [true, true, true, true, true, true, true, true, true, false, false, false] [_, _, _, _, _, _, _, _, _] [_, _, _] rfl [0, 1, 2] rfl [0, 1, 2] (fun u_20 => [_, _, _]) (fun _ => rfl) (hs_upnd rfl) [true, true, true, true, true, true, true, true, true, false, false, false] (fun u_20 => [_, _, _, _, _, _, _, _, _, _, _, _]) (fun _ => rfl) (fun r_18 u_20 H locs hw_19 hP hD hS => ?_)
            refine va_mmax hx hb (hml.trans hl.1.symm) hown mm227 msmax mi mcmax (Nat.le_of_ble_eq_true rfl) (Nat.le_of_ble_eq_true rfl) (Nat.zero_le _) (Nat.zero_le _) dX7_next_88 ?_
            refine lv_istore (lv' := [(6, .int (if r_15 < r_18 then r_18 else r_15)), (5, .int (nI x2)), (4, .int (nI x1)), (3, .int be2), (2, .int le2), (0, .ref h), (1, .int what)]) hx hb dX7_next_91 hl (Nat.le_of_ble_eq_true rfl) rfl (fun ls hl => ?_)
            refine lv_iload hx hb dX7_next_93 (lv_at hl 0 rfl) ?_
            refine lv_iload_n hx hb dX7_next_95 rfl (lv_at hl 4 rfl) ?_
            refine lv_icmp_ge (tgt := 111) hx hb dX7_next_96 rfl (fun c_21 => ?_) (fun c_21 => ?_)
            · refine lv_iinc (v := nI (x2 + 1)) (lv' := [(5, .int (nI (x2 + 1))), (6, .int (if r_15 < r_18 then r_18 else r_15)), (4, .int (nI x1)), (3, .int be2), (2, .int le2), (0, .ref h), (1, .int what)]) hx hb dX7_next_111 hl (k := 1) rfl (nI_add (x2) 1) (Nat.le_of_ble_eq_true rfl) rfl (fun ls hl => ?_)
              refine lv_goto (tgt := 54) hx hb dX7_next_114 rfl ?_
              exact ih54 (le2, be2, x2 + 1, u_20.1, u_20.2) (by (try dsimp only); first | omega | (refine ⟨?_, ?_⟩ <;> first | omega | assumption)) (by (try dsimp only); omega) _ _ _ hP hD hS (lv_sub hl [0, 2, 3, 4, 5, 6] rfl)
            · refine lv_iload hx hb dX7_next_99 (lv_at hl 0 rfl) ?_
              refine lv_istore_n (lv' := [(2, .int (if r_15 < r_18 then r_18 else r_15)), (6, .int (if r_15 < r_18 then r_18 else r_15)), (5, .int (nI x2)), (4, .int (nI x1)), (3, .int be2), (0, .ref h), (1, .int what)]) hx hb dX7_next_101 rfl hl (Nat.le_of_ble_eq_true rfl) rfl (fun ls hl => ?_)
              refine lv_bipush (v := 10) hx hb dX7_next_102 hkb_10 ?_
              refine lv_iload hx hb dX7_next_104 (lv_at hl 3 rfl) ?_
              refine lv_imul hx hb dX7_next_106 ?_
              refine hs_topi (nI (10 * x1)) (pk_mul (10) (x1)) ?_
              refine lv_iload hx hb dX7_next_107 (lv_at hl 2 rfl) ?_
              refine lv_iadd hx hb dX7_next_109 ?_
              refine hs_topi (nI ((10 * x1) + x2)) (nI_add ((10 * x1)) (x2)) ?_
              refine lv_istore_n (lv' := [(3, .int (nI ((10 * x1) + x2))), (2, .int (if r_15 < r_18 then r_18 else r_15)), (6, .int (if r_15 < r_18 then r_18 else r_15)), (5, .int (nI x2)), (4, .int (nI x1)), (0, .ref h), (1, .int what)]) hx hb dX7_next_110 rfl hl (Nat.le_of_ble_eq_true rfl) rfl (fun ls hl => ?_)
              refine lv_iinc (v := nI (x2 + 1)) (lv' := [(5, .int (nI (x2 + 1))), (3, .int (nI ((10 * x1) + x2))), (2, .int (if r_15 < r_18 then r_18 else r_15)), (6, .int (if r_15 < r_18 then r_18 else r_15)), (4, .int (nI x1)), (0, .ref h), (1, .int what)]) hx hb dX7_next_111 hl (k := 3) rfl (nI_add (x2) 1) (Nat.le_of_ble_eq_true rfl) rfl (fun ls hl => ?_)
              refine lv_goto (tgt := 54) hx hb dX7_next_114 rfl ?_
              exact ih54 (if r_15 < r_18 then r_18 else r_15, nI ((10 * x1) + x2), x2 + 1, u_20.1, u_20.2) (by (try dsimp only); first | omega | (refine ⟨?_, ?_⟩ <;> first | omega | assumption)) (by (try dsimp only); omega) _ _ _ hP hD hS (lv_sub hl [0, 4, 1, 2, 5, 6] rfl)
        · (try dsimp only); first | omega | (refine ⟨?_, ?_⟩ <;> first | omega | assumption)
    · (try dsimp only); first | omega | (refine ⟨?_, ?_⟩ <;> first | omega | assumption)
  · refine lv_iconst (v := (-1)) hx hb dX7_next_9 hki_m1 ?_
    exact hs_iret hx hb hr hlocks hK hP hD hS (q_z, af, wf) [0, 1, 2, 3, 4, 5, 6, 7, 8, 9, 10, 11] rfl (hs_upnd rfl) dX7_next_10 (by (try dsimp only); first | exact Or.inl rfl | exact Or.inr rfl)

set_option maxHeartbeats 4000000 in
set_option maxRecDepth 100000 in
theorem g_isTrial (l : Launch) (D : va_G) (k : Nat → ClassId) (sz : Nat) (h : Nat) (h_now : Nat) (h_trial : Nat) (h_images : Nat) (h_imageThere : Nat) (h_teller : Nat) (h_ranks : Nat) (h_court : Nat) (h_sheets : Nat) (h_lf : Int32) (h_lt : Int32) (n_a : Nat → Nat) (n_N : Nat → Nat) (n_J : Nat → Int32) (v : Int32) (i : Int32) (what : Int32) (hN0 : thN n_N) : MI l yX7_isTrial wsX7_isTrial ({ frames := 2, cells := 0, slots := 0, locals := 43 }) D k [.ref h, .int v, .int i, .int what] [oq6 h h_now h_trial h_images h_imageThere h_teller h_ranks h_court h_sheets h_lf h_lt, oqT h_now n_a n_N n_J] sz (fun (r : Int32) (u : Unit) => True) (fun (u : Unit) => [oq6 h h_now h_trial h_images h_imageThere h_teller h_ranks h_court h_sheets h_lf h_lt, oqT h_now n_a n_N n_J]) := by
  refine Met.ofW (cc := cX7_isTrial) (maxL := 4) (ret := (some .boolean)) hpn_X7 rfl ?_
  intro p e s m args below meth c s₁ B hml hv
  obtain ⟨rfl, hsz, hP, hK, hD0, hN⟩ := hv
  have hx := B.exec
  have hb := B.bytes
  have hr := B.returns
  have hlocks := B.notSynchronized
  have hts := atoms_spec (ws := wsX7_isTrial) B.pre
  have hown := findClass_of_methodNamed B.named
  have hown : s.vm.findClass RX7 = some m.cls := hown
  have hiX7 : ∀ w ∈ u_ws RX7 TX7 10, w ∈ wsX7_isTrial := fun w9 hw9 => List.mem_cons_of_mem _ (igX7 w9 hw9)
  have fl10 := hts (.fieldLink RX7 10 "HalfScales" "now" "LHalfScales$Thing;") (List.mem_cons_of_mem _ (hs_inG 1 215 rfl rfl))
  subst hsz
  have hD := hD0.self (sz := s.heap.size)
  generalize hAe : va_A [oq6 h h_now h_trial h_images h_imageThere h_teller h_ranks h_court h_sheets h_lf h_lt, oqT h_now n_a n_N n_J] s.heap.size = A at hD ⊢
  have hA : ∀ q : Nat, s.heap.size ≤ q → A q := fun q h => by rw [← hAe]; exact Or.inr h
  have hS : va_S A s.heap s.heap [] := va_S.rf
  have hl := lv_entry ([.ref h, .int v, .int i, .int what]) (n := 4) (Nat.le_of_ble_eq_true rfl)
  rw [lg_entry_eq]
  generalize (lg_sl ([.ref h, .int v, .int i, .int what]) ++ List.replicate (4 - (lg_sl ([.ref h, .int v, .int i, .int what])).length) Slot.unset).toArray = ls at hl ⊢
  have hl : lv_has ls 4 [(0, .ref h), (1, .int v), (2, .int i), (3, .int what)] := hl
  have hP : va_P D vwCl [oq6 h h_now h_trial h_images h_imageThere h_teller h_ranks h_court h_sheets h_lf h_lt, oqT h_now n_a n_N n_J] s.heap := hP
  refine lv_iload_n hx hb dX7_isTrial_0 rfl (lv_at hl 1 rfl) ?_
  refine lv_iconst (v := 0) hx hb dX7_isTrial_1 hki_0 ?_
  refine lv_bipush (v := 10) hx hb dX7_isTrial_2 hkb_10 ?_
  refine hs_pi (va_runS (As := [.int v, .int 0, .int 10]) (rest := []) ⟨hx, hb, hml, hown, hts⟩ (g_within l D k _ v 0 10) (va_cwS 3 hts gX7_isTrial_X7_within rfl rfl rfl hq_X7_within ⟨Nat.le_of_ble_eq_true rfl, Nat.le_of_ble_eq_true rfl⟩) (hs_preS hK hN (hs_subP (w := []) hP [] rfl) (hD.sub (ws' := []) [] rfl rfl)) rfl rfl hl.1 rfl (lv_room (Nat.le_of_ble_eq_true rfl)) dX7_isTrial_4 ⟨Nat.le_of_ble_eq_true rfl, Nat.le_of_ble_eq_true rfl⟩) hP hD hS hA (fun r_1 u_3 H locs hw_2 hP hS => ?_)
  refine hs_topi (hsb (hsin v 0 10)) hw_2 ?_
  refine lv_if_eq (tgt := 34) hx hb dX7_isTrial_7 rfl (fun c_4 => ?_) (fun c_4 => ?_)
  · refine lv_iconst (v := 0) hx hb dX7_isTrial_34 hki_0 ?_
    exact hs_zret hx hb hr hlocks hK hP hD hS () [0, 1] rfl (hs_upnd rfl) dX7_isTrial_35 rfl (trivial)
  · refine lv_aload_n hx hb dX7_isTrial_10 rfl (lv_at hl 0 rfl) ?_
    refine va_get (D := D) (ci := 6) (v := .ref h_now) (C := RX7) (T := TX7) (N := 10) hx hb hts hiX7 hown hK hP 0 rfl rfl 0 (Nat.le_of_ble_eq_true rfl) fl10 (fun _ h9 => h9) rfl dX7_isTrial_11 ?_
    refine lv_iload_n hx hb dX7_isTrial_14 rfl (lv_at hl 2 rfl) ?_
    refine hs_ciM (va_runV (As := [.int i]) (rest := []) ⟨hx, hb, hml, hown, hts⟩ (g_isCut l D k _ h_now n_a n_N n_J i (by first | assumption | exact ⟨by first | omega | (dsimp; omega), by first | omega | (dsimp; omega), ⟨by first | omega | (dsimp; omega), by first | omega | (dsimp; omega)⟩, by first | omega | (dsimp; omega), by first | omega | (dsimp; omega)⟩)) (cwV 1 hts gX7_isTrial_X6_isCut rfl rfl rfl ⟨rfl, hq_X6_isCut⟩ ⟨Nat.le_of_ble_eq_true rfl, Nat.le_of_ble_eq_true rfl⟩) (hs_preV hK hN (hs_subP (w := [_]) hP [1] rfl) (hD.sub (ws' := [_]) [1] (hs_upnd rfl) rfl) (ci := 5) (q0 := 0) rfl rfl) rfl rfl hl.1 rfl (lv_room (Nat.le_of_ble_eq_true rfl)) dX7_isTrial_15 ⟨Nat.le_of_ble_eq_true rfl, Nat.le_of_ble_eq_true rfl⟩) hP hD hS hA [true, false] [_] [_] rfl [0] rfl [0] (fun u_7 => [_]) (fun _ => rfl) (hs_upnd rfl) [true, false] (fun u_7 => [_, _]) (fun _ => rfl) (fun r_5 u_7 H locs hw_6 hP hD hS => ?_)
    refine hs_topi (hsb (hslt1 i (n_N 0))) hw_6 ?_
    refine lv_if_eq (tgt := 34) hx hb dX7_isTrial_18 rfl (fun c_8 => ?_) (fun c_8 => ?_)
    · refine lv_iconst (v := 0) hx hb dX7_isTrial_34 hki_0 ?_
      exact hs_zret hx hb hr hlocks hK hP hD hS () [0, 1] rfl (hs_upnd rfl) dX7_isTrial_35 rfl (trivial)
    · refine lv_iload_n hx hb dX7_isTrial_21 rfl (lv_at hl 3 rfl) ?_
      refine lv_iconst (v := 0) hx hb dX7_isTrial_22 hki_0 ?_
      refine lv_iconst (v := 1) hx hb dX7_isTrial_23 hki_1 ?_
      refine hs_pi (va_runS (As := [.int what, .int 0, .int 1]) (rest := []) ⟨hx, hb, hml, hown, hts⟩ (g_within l D k _ what 0 1) (va_cwS 3 hts gX7_isTrial_X7_within rfl rfl rfl hq_X7_within ⟨Nat.le_of_ble_eq_true rfl, Nat.le_of_ble_eq_true rfl⟩) (hs_preS hK hN (hs_subP (w := []) hP [] rfl) (hD.sub (ws' := []) [] rfl rfl)) rfl rfl hl.1 rfl (lv_room (Nat.le_of_ble_eq_true rfl)) dX7_isTrial_24 ⟨Nat.le_of_ble_eq_true rfl, Nat.le_of_ble_eq_true rfl⟩) hP hD hS hA (fun r_9 u_11 H locs hw_10 hP hS => ?_)
      refine hs_topi (hsb (hsin what 0 1)) hw_10 ?_
      refine lv_if_eq (tgt := 34) hx hb dX7_isTrial_27 rfl (fun c_12 => ?_) (fun c_12 => ?_)
      · refine lv_iconst (v := 0) hx hb dX7_isTrial_34 hki_0 ?_
        exact hs_zret hx hb hr hlocks hK hP hD hS () [0, 1] rfl (hs_upnd rfl) dX7_isTrial_35 rfl (trivial)
      · refine lv_iconst (v := 1) hx hb dX7_isTrial_30 hki_1 ?_
        refine lv_goto (tgt := 35) hx hb dX7_isTrial_31 rfl ?_
        exact hs_zret hx hb hr hlocks hK hP hD hS () [0, 1] rfl (hs_upnd rfl) dX7_isTrial_35 rfl (trivial)

set_option maxHeartbeats 4000000 in
set_option maxRecDepth 100000 in
theorem gp_luck (l : Launch) (D : va_G) (k : Nat → ClassId) (sz : Nat) (h : Nat) (h_now : Nat) (h_trial : Nat) (h_images : Nat) (h_imageThere : Nat) (h_teller : Nat) (h_ranks : Nat) (h_court : Nat) (h_sheets : Nat) (h_lf : Int32) (h_lt : Int32) (n_a : Nat → Nat) (n_N : Nat → Nat) (n_J : Nat → Int32) (n_F : Nat → Nat → Int32) (co_tell : Nat) (tf0 : Nat → Int64) (v : Int32) (i : Int32) (what : Int32) (hN0 : thN n_N) (hF : thF n_N n_F) (h2 : 2 ≤ n_N 0) : ML l yX7_luck wsX7_luck ({ frames := 4, cells := 0, slots := 0, locals := 96 }) D k [.ref h, .int v, .int i, .int what] [oq6 h h_now h_trial h_images h_imageThere h_teller h_ranks h_court h_sheets h_lf h_lt, oqT h_now n_a n_N n_J, oqF0 k n_a n_F, oqF1 k n_a n_F, oqF2 k n_a n_F, oqF3 k n_a n_F, oqF4 k n_a n_F, oqF5 k n_a n_F, oqF6 k n_a n_F, oq0 h_court co_tell, oqL k co_tell 5 (tf0)] sz (fun (r : Int64) (u : Nat → Int64) => True) (fun (u : Nat → Int64) => [oq6 h h_now h_trial h_images h_imageThere h_teller h_ranks h_court h_sheets h_lf h_lt, oqT h_now n_a n_N n_J, oqF0 k n_a n_F, oqF1 k n_a n_F, oqF2 k n_a n_F, oqF3 k n_a n_F, oqF4 k n_a n_F, oqF5 k n_a n_F, oqF6 k n_a n_F, oq0 h_court co_tell, oqL k co_tell 5 (u)]) := by
  refine Met.ofW (cc := cX7_luck) (maxL := 4) (ret := (some .long)) hpn_X7 rfl ?_
  intro p e s m args below meth c s₁ B hml hv
  obtain ⟨rfl, hsz, hP, hK, hD0, hN⟩ := hv
  have hx := B.exec
  have hb := B.bytes
  have hr := B.returns
  have hlocks := B.notSynchronized
  have hts := atoms_spec (ws := wsX7_luck) B.pre
  have hown := findClass_of_methodNamed B.named
  have hown : s.vm.findClass RX7 = some m.cls := hown
  have hiX6 : ∀ w ∈ u_ws RX6 TX6 15, w ∈ wsX7_luck := fun w9 hw9 => List.mem_cons_of_mem _ (igX6 w9 hw9)
  have hiX7 : ∀ w ∈ u_ws RX7 TX7 10, w ∈ wsX7_luck := fun w9 hw9 => List.mem_cons_of_mem _ (igX7 w9 hw9)
  have fl44 := hts (.fieldLink RX7 44 "HalfScales" "court" "LHalfScales$Court;") (List.mem_cons_of_mem _ (hs_inG 1 221 rfl rfl))
  have fl10 := hts (.fieldLink RX7 10 "HalfScales" "now" "LHalfScales$Thing;") (List.mem_cons_of_mem _ (hs_inG 1 215 rfl rfl))
  have fl96 := hts (.fieldLink RX7 96 "HalfScales$Thing" "peopleCount" "I") (List.mem_cons_of_mem _ (hs_inG 1 57 rfl rfl))
  have kl235 := hts (.constantLong RX7 235 (-1)) (List.mem_cons_of_mem _ (hs_inG 3 184 rfl rfl))
  have hNn := hN0
  obtain ⟨I0, I1, ⟨I2, I2b⟩, I3, I4⟩ := hN0
  subst hsz
  have hD := hD0.self (sz := s.heap.size)
  generalize hAe : va_A [oq6 h h_now h_trial h_images h_imageThere h_teller h_ranks h_court h_sheets h_lf h_lt, oqT h_now n_a n_N n_J, oqF0 k n_a n_F, oqF1 k n_a n_F, oqF2 k n_a n_F, oqF3 k n_a n_F, oqF4 k n_a n_F, oqF5 k n_a n_F, oqF6 k n_a n_F, oq0 h_court co_tell, oqL k co_tell 5 (tf0)] s.heap.size = A at hD ⊢
  have hA : ∀ q : Nat, s.heap.size ≤ q → A q := fun q h => by rw [← hAe]; exact Or.inr h
  have hS : va_S A s.heap s.heap [] := va_S.rf
  have hl := lv_entry ([.ref h, .int v, .int i, .int what]) (n := 4) (Nat.le_of_ble_eq_true rfl)
  rw [lg_entry_eq]
  generalize (lg_sl ([.ref h, .int v, .int i, .int what]) ++ List.replicate (4 - (lg_sl ([.ref h, .int v, .int i, .int what])).length) Slot.unset).toArray = ls at hl ⊢
  have hl : lv_has ls 4 [(0, .ref h), (1, .int v), (2, .int i), (3, .int what)] := hl
  have hP : va_P D vwCl [oq6 h h_now h_trial h_images h_imageThere h_teller h_ranks h_court h_sheets h_lf h_lt, oqT h_now n_a n_N n_J, oqF0 k n_a n_F, oqF1 k n_a n_F, oqF2 k n_a n_F, oqF3 k n_a n_F, oqF4 k n_a n_F, oqF5 k n_a n_F, oqF6 k n_a n_F, oq0 h_court co_tell, oqL k co_tell 5 (tf0)] s.heap := hP
  refine lv_aload_n hx hb dX7_luck_0 rfl (lv_at hl 0 rfl) ?_
  refine lv_iload_n hx hb dX7_luck_1 rfl (lv_at hl 1 rfl) ?_
  refine lv_iload_n hx hb dX7_luck_2 rfl (lv_at hl 2 rfl) ?_
  refine lv_iload_n hx hb dX7_luck_3 rfl (lv_at hl 3 rfl) ?_
  refine hs_ciM (va_runV (As := [.int v, .int i, .int what]) (rest := []) ⟨hx, hb, hml, hown, hts⟩ (g_isTrial l D k _ h h_now h_trial h_images h_imageThere h_teller h_ranks h_court h_sheets h_lf h_lt n_a n_N n_J v i what (by first | assumption | exact ⟨by first | omega | (dsimp; omega), by first | omega | (dsimp; omega), ⟨by first | omega | (dsimp; omega), by first | omega | (dsimp; omega)⟩, by first | omega | (dsimp; omega), by first | omega | (dsimp; omega)⟩)) (cwV 3 hts gX7_luck_X7_isTrial rfl rfl rfl ⟨rfl, hq_X7_isTrial⟩ ⟨Nat.le_of_ble_eq_true rfl, Nat.le_of_ble_eq_true rfl⟩) (hs_preV hK hN (hs_subP (w := [_, _]) hP [0, 1] rfl) (hD.sub (ws' := [_, _]) [0, 1] (hs_upnd rfl) rfl) (ci := 6) (q0 := 0) rfl rfl) rfl rfl hl.1 rfl (lv_room (Nat.le_of_ble_eq_true rfl)) dX7_luck_4 ⟨Nat.le_of_ble_eq_true rfl, Nat.le_of_ble_eq_true rfl⟩) hP hD hS hA [false, false, true, true, true, true, true, true, true, true, true] [_, _, _, _, _, _, _, _, _] [_, _] rfl [0, 1] rfl [0, 1] (fun u_3 => [_, _]) (fun _ => rfl) (hs_upnd rfl) [false, false, true, true, true, true, true, true, true, true, true] (fun u_3 => [_, _, _, _, _, _, _, _, _, _, _]) (fun _ => rfl) (fun r_1 u_3 H locs hw_2 hP hD hS => ?_)
  refine lv_if_ne (tgt := 14) hx hb dX7_luck_7 rfl (fun c_4 => ?_) (fun c_4 => ?_)
  · refine lv_aload_n hx hb dX7_luck_14 rfl (lv_at hl 0 rfl) ?_
    refine va_get (D := D) (ci := 6) (v := .ref h_court) (C := RX7) (T := TX7) (N := 10) hx hb hts hiX7 hown hK hP 0 rfl rfl 6 (Nat.le_of_ble_eq_true rfl) fl44 (fun _ h9 => h9) rfl dX7_luck_15 ?_
    refine lv_iload_n hx hb dX7_luck_18 rfl (lv_at hl 1 rfl) ?_
    refine lv_aload_n hx hb dX7_luck_19 rfl (lv_at hl 0 rfl) ?_
    refine va_get (D := D) (ci := 6) (v := .ref h_now) (C := RX7) (T := TX7) (N := 10) hx hb hts hiX7 hown hK hP 0 rfl rfl 0 (Nat.le_of_ble_eq_true rfl) fl10 (fun _ h9 => h9) rfl dX7_luck_20 ?_
    refine lv_iload_n hx hb dX7_luck_23 rfl (lv_at hl 2 rfl) ?_
    refine hs_ciM (va_runV (As := [.int i]) (rest := [.int v, .ref h_court]) ⟨hx, hb, hml, hown, hts⟩ (g_justTo l D k _ h_now n_a n_N n_J n_F i (by first | assumption | exact ⟨by first | omega | (dsimp; omega), by first | omega | (dsimp; omega), ⟨by first | omega | (dsimp; omega), by first | omega | (dsimp; omega)⟩, by first | omega | (dsimp; omega), by first | omega | (dsimp; omega)⟩)) (cwV 1 hts gX7_luck_X6_justTo rfl rfl rfl ⟨rfl, hq_X6_justTo⟩ ⟨Nat.le_of_ble_eq_true rfl, Nat.le_of_ble_eq_true rfl⟩) (hs_preV hK hN (hs_subP (w := [_, _, _, _, _, _, _, _]) hP [1, 2, 3, 4, 5, 6, 7, 8] rfl) (hD.sub (ws' := [_, _, _, _, _, _, _, _]) [1, 2, 3, 4, 5, 6, 7, 8] (hs_upnd rfl) rfl) (ci := 5) (q0 := 0) rfl rfl) rfl rfl hl.1 rfl (lv_room (Nat.le_of_ble_eq_true rfl)) dX7_luck_24 ⟨Nat.le_of_ble_eq_true rfl, Nat.le_of_ble_eq_true rfl⟩) hP hD hS hA [true, false, false, false, false, false, false, false, false, true, true] [_, _, _] [_, _, _, _, _, _, _, _] rfl [0, 1, 2, 3, 4, 5, 6, 7] rfl [0, 1, 2, 3, 4, 5, 6, 7] (fun u_7 => [_, _, _, _, _, _, _, _]) (fun _ => rfl) (hs_upnd rfl) [true, false, false, false, false, false, false, false, false, true, true] (fun u_7 => [_, _, _, _, _, _, _, _, _, _, _]) (fun _ => rfl) (fun r_5 u_7 H locs hw_6 hP hD hS => ?_)
    refine lv_aload_n hx hb dX7_luck_27 rfl (lv_at hl 0 rfl) ?_
    refine va_get (D := D) (ci := 6) (v := .ref h_now) (C := RX7) (T := TX7) (N := 10) hx hb hts hiX7 hown hK hP 0 rfl rfl 0 (Nat.le_of_ble_eq_true rfl) fl10 (fun _ h9 => h9) rfl dX7_luck_28 ?_
    refine va_get (D := D) (ci := 5) (v := .int (nI (n_N 1))) (C := RX6) (T := TX6) (N := 15) hx hb hts hiX6 hown hK hP 1 rfl rfl 8 (Nat.le_of_ble_eq_true rfl) fl96 (fun _ h9 => h9) rfl dX7_luck_31 ?_
    refine lv_iload_n hx hb dX7_luck_34 rfl (lv_at hl 3 rfl) ?_
    refine hs_clM (va_runV (As := [.int v, .int r_5, .int (nI (n_N 1)), .int what]) (rest := []) ⟨hx, hb, hml, hown, hts⟩ (g_majority l D k _ h_court co_tell v r_5 (n_N 1) what tf0 (by omega)) (cwV 4 hts gX7_luck_X0_majority rfl rfl rfl ⟨rfl, hq_X0_majority⟩ ⟨Nat.le_of_ble_eq_true rfl, Nat.le_of_ble_eq_true rfl⟩) (hs_preV hK hN (hs_subP (w := [_, _]) hP [9, 10] rfl) (hD.sub (ws' := [_, _]) [9, 10] (hs_upnd rfl) rfl) (ci := 0) (q0 := 0) rfl rfl) rfl rfl hl.1 rfl (lv_room (Nat.le_of_ble_eq_true rfl)) dX7_luck_35 ⟨Nat.le_of_ble_eq_true rfl, Nat.le_of_ble_eq_true rfl⟩) hP hD hS hA [true, true, true, true, true, true, true, true, true, false, false] [_, _, _, _, _, _, _, _, _] [_, _] rfl [0, 1] rfl [0, 1] (fun u_10 => [_, _]) (fun _ => rfl) (hs_upnd rfl) [true, true, true, true, true, true, true, true, true, false, false] (fun u_10 => [_, _, _, _, _, _, _, _, _, _, _]) (fun _ => rfl) (fun r_8 u_10 H locs hw_9 hP hD hS => ?_)
    exact hs_lret hx hb hr hlocks hK hP hD hS u_10 [0, 1, 2, 3, 4, 5, 6, 7, 8, 9, 10] rfl (hs_upnd rfl) dX7_luck_38 (trivial)
  · refine lv_ldc2 hx hb hown kl235 dX7_luck_10 ?_
    exact hs_lret hx hb hr hlocks hK hP hD hS tf0 [0, 1, 2, 3, 4, 5, 6, 7, 8, 9, 10] rfl (hs_upnd rfl) dX7_luck_13 (trivial)
