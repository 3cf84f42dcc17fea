set_option maxHeartbeats 4000000 in
set_option maxRecDepth 100000 in
theorem gpf_mean (l : Launch) (D : va_G) (k : Nat → ClassId) (sz : Nat) (h : Nat) (h_now : Nat) (h_trial : Nat) (h_images : Nat) (h_imageThere : Nat) (h_teller : Nat) (h_ranks : Nat) (h_court : Nat) (h_sheets : Nat) (h_lf : Int32) (h_lt : Int32) (n_a : Nat → Nat) (n_N : Nat → Nat) (n_J : Nat → Int32) (n_F : Nat → Nat → Int32) (v : Int32) (i : Int32) (what : Int32) (hN0 : thN n_N) (hF : thF n_N n_F) (h2 : 2 ≤ n_N 0) : ML l yX7_mean wsX7_mean ({ frames := 4, cells := 0, slots := 0, locals := 96 }) D k [.ref h, .int v, .int i, .int what] [oq6 h h_now h_trial h_images h_imageThere h_teller h_ranks h_court h_sheets h_lf h_lt, oqT h_now n_a n_N n_J, oqF0 k n_a n_F, oqF1 k n_a n_F, oqF2 k n_a n_F, oqF3 k n_a n_F, oqF4 k n_a n_F, oqF5 k n_a n_F, oqF6 k n_a n_F] sz (fun (r : Int64) (u : Unit) => r = A_meC n_N n_J n_F v i what) (fun (u : Unit) => [oq6 h h_now h_trial h_images h_imageThere h_teller h_ranks h_court h_sheets h_lf h_lt, oqT h_now n_a n_N n_J, oqF0 k n_a n_F, oqF1 k n_a n_F, oqF2 k n_a n_F, oqF3 k n_a n_F, oqF4 k n_a n_F, oqF5 k n_a n_F, oqF6 k n_a n_F]) := by
  refine Met.ofW (cc := cX7_mean) (maxL := 4) (ret := (some .long)) hpn_X7 rfl ?_
  intro p e s m args below meth c s₁ B hml hv
  obtain ⟨rfl, hsz, hP, hK, hD0, hN⟩ := hv
  have hx := B.exec
  have hb := B.bytes
  have hr := B.returns
  have hlocks := B.notSynchronized
  have hts := atoms_spec (ws := wsX7_mean) B.pre
  have hown := findClass_of_methodNamed B.named
  have hown : s.vm.findClass RX7 = some m.cls := hown
  have hiX6 : ∀ w ∈ u_ws RX6 TX6 15, w ∈ wsX7_mean := fun w9 hw9 => List.mem_cons_of_mem _ (igX6 w9 hw9)
  have hiX7 : ∀ w ∈ u_ws RX7 TX7 10, w ∈ wsX7_mean := fun w9 hw9 => List.mem_cons_of_mem _ (igX7 w9 hw9)
  have fl10 := hts (.fieldLink RX7 10 "HalfScales" "now" "LHalfScales$Thing;") (List.mem_cons_of_mem _ (hs_inG 1 215 rfl rfl))
  have fl96 := hts (.fieldLink RX7 96 "HalfScales$Thing" "peopleCount" "I") (List.mem_cons_of_mem _ (hs_inG 1 57 rfl rfl))
  have kl235 := hts (.constantLong RX7 235 (-1)) (List.mem_cons_of_mem _ (hs_inG 3 184 rfl rfl))
  have hNn := hN0
  obtain ⟨I0, I1, ⟨I2, I2b⟩, I3, I4⟩ := hN0
  subst hsz
  have hD := hD0.self (sz := s.heap.size)
  generalize hAe : va_A [oq6 h h_now h_trial h_images h_imageThere h_teller h_ranks h_court h_sheets h_lf h_lt, oqT h_now n_a n_N n_J, oqF0 k n_a n_F, oqF1 k n_a n_F, oqF2 k n_a n_F, oqF3 k n_a n_F, oqF4 k n_a n_F, oqF5 k n_a n_F, oqF6 k n_a n_F] s.heap.size = A at hD ⊢
  have hA : ∀ q : Nat, s.heap.size ≤ q → A q := fun q h => by rw [← hAe]; exact Or.inr h
  have hS : va_S A s.heap s.heap [] := va_S.rf
  have hl := lv_entry ([.ref h, .int v, .int i, .int what]) (n := 4) (Nat.le_of_ble_eq_true rfl)
  rw [lg_entry_eq]
  generalize (lg_sl ([.ref h, .int v, .int i, .int what]) ++ List.replicate (4 - (lg_sl ([.ref h, .int v, .int i, .int what])).length) Slot.unset).toArray = ls at hl ⊢
  have hl : lv_has ls 4 [(0, .ref h), (1, .int v), (2, .int i), (3, .int what)] := hl
  have hP : va_P D vwCl [oq6 h h_now h_trial h_images h_imageThere h_teller h_ranks h_court h_sheets h_lf h_lt, oqT h_now n_a n_N n_J, oqF0 k n_a n_F, oqF1 k n_a n_F, oqF2 k n_a n_F, oqF3 k n_a n_F, oqF4 k n_a n_F, oqF5 k n_a n_F, oqF6 k n_a n_F] s.heap := hP
  refine lv_aload_n hx hb dX7_mean_0 rfl (lv_at hl 0 rfl) ?_
  refine lv_iload_n hx hb dX7_mean_1 rfl (lv_at hl 1 rfl) ?_
  refine lv_iload_n hx hb dX7_mean_2 rfl (lv_at hl 2 rfl) ?_
  refine lv_iload_n hx hb dX7_mean_3 rfl (lv_at hl 3 rfl) ?_
  refine hs_ciM (va_runV (As := [.int v, .int i, .int what]) (rest := []) ⟨hx, hb, hml, hown, hts⟩ (gf_isTrial l D k _ h h_now h_trial h_images h_imageThere h_teller h_ranks h_court h_sheets h_lf h_lt n_a n_N n_J v i what (by first | assumption | exact ⟨by first | omega | (dsimp; omega), by first | omega | (dsimp; omega), ⟨by first | omega | (dsimp; omega), by first | omega | (dsimp; omega)⟩, by first | omega | (dsimp; omega), by first | omega | (dsimp; omega)⟩)) (cwV 3 hts gX7_mean_X7_isTrial rfl rfl rfl ⟨rfl, hq_X7_isTrial⟩ ⟨Nat.le_of_ble_eq_true rfl, Nat.le_of_ble_eq_true rfl⟩) (hs_preV hK hN (hs_subP (w := [_, _]) hP [0, 1] rfl) (hD.sub (ws' := [_, _]) [0, 1] (hs_upnd rfl) rfl) (ci := 6) (q0 := 0) rfl rfl) rfl rfl hl.1 rfl (lv_room (Nat.le_of_ble_eq_true rfl)) dX7_mean_4 ⟨Nat.le_of_ble_eq_true rfl, Nat.le_of_ble_eq_true rfl⟩) hP hD hS hA [false, false, true, true, true, true, true, true, true] [_, _, _, _, _, _, _] [_, _] rfl [0, 1] rfl [0, 1] (fun u_3 => [_, _]) (fun _ => rfl) (hs_upnd rfl) [false, false, true, true, true, true, true, true, true] (fun u_3 => [_, _, _, _, _, _, _, _, _]) (fun _ => rfl) (fun r_1 u_3 H locs hw_2 hP hD hS => ?_)
  refine hs_topi (hsb (hsin v 0 10 && hslt1 i (n_N 0) && hsin what 0 1)) hw_2 ?_
  refine lv_if_ne (tgt := 14) hx hb dX7_mean_7 rfl (fun c_4 => ?_) (fun c_4 => ?_)
  · obtain ⟨vv, -, hvv, rfl⟩ := hs_rng (lo := 0) (hi := 10) (by decide) (by decide) (hs_and1 (hs_and1 (hs_nb c_4)))
    refine lv_iload_n hx hb dX7_mean_14 rfl (lv_at hl 1 rfl) ?_
    refine lv_aload_n hx hb dX7_mean_15 rfl (lv_at hl 0 rfl) ?_
    refine va_get (D := D) (ci := 6) (v := .ref h_now) (C := RX7) (T := TX7) (N := 10) hx hb hts hiX7 hown hK hP 0 rfl rfl 0 (Nat.le_of_ble_eq_true rfl) fl10 (fun _ h9 => h9) rfl dX7_mean_16 ?_
    refine lv_iload_n hx hb dX7_mean_19 rfl (lv_at hl 2 rfl) ?_
    obtain ⟨jx, hjx, ejx⟩ := A_jtb (v := A_vfc n_N n_J n_F i) (n_N 1) (by omega)
    refine hs_ciM (va_runV (As := [.int i]) (rest := [.int (nI vv)]) ⟨hx, hb, hml, hown, hts⟩ (gf_justTo l D k _ h_now n_a n_N n_J n_F i (by first | assumption | exact ⟨by first | omega | (dsimp; omega), by first | omega | (dsimp; omega), ⟨by first | omega | (dsimp; omega), by first | omega | (dsimp; omega)⟩, by first | omega | (dsimp; omega), by first | omega | (dsimp; omega)⟩)) (cwV 1 hts gX7_mean_X6_justTo rfl rfl rfl ⟨rfl, hq_X6_justTo⟩ ⟨Nat.le_of_ble_eq_true rfl, Nat.le_of_ble_eq_true rfl⟩) (hs_preV hK hN (hs_subP (w := [_, _, _, _, _, _, _, _]) hP [1, 2, 3, 4, 5, 6, 7, 8] rfl) (hD.sub (ws' := [_, _, _, _, _, _, _, _]) [1, 2, 3, 4, 5, 6, 7, 8] (hs_upnd rfl) rfl) (ci := 5) (q0 := 0) rfl rfl) rfl rfl hl.1 rfl (lv_room (Nat.le_of_ble_eq_true rfl)) dX7_mean_20 ⟨Nat.le_of_ble_eq_true rfl, Nat.le_of_ble_eq_true rfl⟩) hP hD hS hA [true, false, false, false, false, false, false, false, false] [_] [_, _, _, _, _, _, _, _] rfl [0, 1, 2, 3, 4, 5, 6, 7] rfl [0, 1, 2, 3, 4, 5, 6, 7] (fun u_7 => [_, _, _, _, _, _, _, _]) (fun _ => rfl) (hs_upnd rfl) [true, false, false, false, false, false, false, false, false] (fun u_7 => [_, _, _, _, _, _, _, _, _]) (fun _ => rfl) (fun r_5 u_7 H locs hw_6 hP hD hS => ?_)
    refine hs_topi (A_jt (A_vfc n_N n_J n_F i) (n_N 1)) hw_6 ?_
    refine hs_topi (nI jx) ejx ?_
    refine lv_aload_n hx hb dX7_mean_23 rfl (lv_at hl 0 rfl) ?_
    refine va_get (D := D) (ci := 6) (v := .ref h_now) (C := RX7) (T := TX7) (N := 10) hx hb hts hiX7 hown hK hP 0 rfl rfl 0 (Nat.le_of_ble_eq_true rfl) fl10 (fun _ h9 => h9) rfl dX7_mean_24 ?_
    refine va_get (D := D) (ci := 5) (v := .int (nI (n_N 1))) (C := RX6) (T := TX6) (N := 15) hx hb hts hiX6 hown hK hP 1 rfl rfl 8 (Nat.le_of_ble_eq_true rfl) fl96 (fun _ h9 => h9) rfl dX7_mean_27 ?_
    refine lv_iload_n hx hb dX7_mean_30 rfl (lv_at hl 3 rfl) ?_
    refine hs_pl (va_runS (As := [.int (nI vv), .int (nI jx), .int (nI (n_N 1)), .int what]) (rest := []) ⟨hx, hb, hml, hown, hts⟩ (gf_expected l D k _ vv jx (n_N 1) what (by omega) (by omega) hjx) (va_cwS 4 hts gX7_mean_X0_expected rfl rfl rfl hq_X0_expected ⟨Nat.le_of_ble_eq_true rfl, Nat.le_of_ble_eq_true rfl⟩) (hs_preS hK hN (hs_subP (w := []) hP [] rfl) (hD.sub (ws' := []) [] rfl rfl)) rfl rfl hl.1 rfl (lv_room (Nat.le_of_ble_eq_true rfl)) dX7_mean_31 ⟨Nat.le_of_ble_eq_true rfl, Nat.le_of_ble_eq_true rfl⟩) hP hD hS hA (fun r_8 u_10 H locs hw_9 hP hS => ?_)
    refine hs_topl (A_lo (A_tq (nI vv) (nI jx) (n_N 1)) 10 what) hw_9 ?_
    exact hs_lret hx hb hr hlocks hK hP hD hS () [0, 1, 2, 3, 4, 5, 6, 7, 8] rfl (hs_upnd rfl) dX7_mean_34 ((by rw [A_meC, if_pos (hs_nb c_4), ejx]))
  · refine lv_ldc2 hx hb hown kl235 dX7_mean_10 ?_
    exact hs_lret hx hb hr hlocks hK hP hD hS () [0, 1, 2, 3, 4, 5, 6, 7, 8] rfl (hs_upnd rfl) dX7_mean_13 ((by rw [A_meC, if_neg (by rw [hs_n0 c_4]; decide)]))

set_option maxHeartbeats 4000000 in
set_option maxRecDepth 100000 in
theorem gqf_mean (l : Launch) (D : va_G) (k : Nat → ClassId) (sz : Nat) (mo : Nat) (mo_st : Nat) (mo_at : Nat) (mo_isKept : Nat) (mo_pe : Nat) (mo_hm : Nat) (mo_draft : Nat) (mo_dp : Nat) (mo_dh : Nat) (mo_toldLines : Int32) (mo_highest : Int32) (mo_tape : Nat) (mo_tl : Nat) (mo_ps : Nat) (mo_fr : Nat) (mo_sort : Int32) (mo_value : Int32) (mo_ft : Nat) (mo_wrongAt : Int32) (mo_row : Nat) (mo_orderMany : Int32) (mo_fo : Nat) (mo_lightest : Int32) (mo_heaviest : Int32) (mo_before : Nat) (mo_justSum : Int64) (mo_toldSum : Int64) (mo_allWays : Int64) (mo_lanes : Nat) (mo_sizes : Nat) (mo_cells : Nat) (mo_torn : Int32) (mo_had : Nat) (sf : Nat → Int32) (c0 : Nat) (c3 : Nat) (c4 : Nat) (af : Nat → Int32) (v : Int32) (kk : Int32) (what : Int32) (e0 : sf 0 = nI c0) (h0 : c0 ≤ 8) (h02 : 2 ≤ c0) (e3 : sf 16 = nI c3) (h3 : c3 ≤ 8) (e4 : sf 25 = nI c4) (h4 : c4 ≤ 6) (hpe : mo_pe ≤ 4) (hm2 : 2 ≤ mo_hm) (hm5 : mo_hm ≤ 5) : ML l yX8_mean wsX8_mean ({ frames := 6, cells := 0, slots := 0, locals := 143 }) D k [.ref mo, .int v, .int kk, .int what] [oq7 mo mo_st mo_at mo_isKept (nI mo_pe) (nI mo_hm) mo_draft (nI mo_dp) (nI mo_dh) mo_toldLines mo_highest mo_tape (nI mo_tl) (nI mo_ps) (nI mo_fr) mo_sort mo_value (nI mo_ft) mo_wrongAt mo_row mo_orderMany (nI mo_fo) mo_lightest mo_heaviest mo_before mo_justSum mo_toldSum mo_allWays mo_lanes mo_sizes mo_cells mo_torn mo_had, oqI k mo_st 132 (sf), oqI k mo_at 44 (af)] sz (fun (r : Int64) (u : (Nat → Int32) × Int64 × Int64 × Int64) => r = A_meM c0 mo_pe sf v kk what) (fun (u : (Nat → Int32) × Int64 × Int64 × Int64) => [oq7 mo mo_st mo_at mo_isKept (nI mo_pe) (nI mo_hm) mo_draft (nI mo_dp) (nI mo_dh) mo_toldLines mo_highest mo_tape (nI mo_tl) (nI mo_ps) (nI mo_fr) mo_sort mo_value (nI mo_ft) mo_wrongAt mo_row mo_orderMany (nI mo_fo) mo_lightest mo_heaviest mo_before u.2.1 u.2.2.1 u.2.2.2 mo_lanes mo_sizes mo_cells mo_torn mo_had, oqI k mo_st 132 (sf), oqI k mo_at 44 (u.1)]) := by
  refine Met.ofW (cc := cX8_mean) (maxL := 4) (ret := (some .long)) hpn_X8 rfl ?_
  intro p e s m args below meth c s₁ B hml hv
  obtain ⟨rfl, hsz, hP, hK, hD0, hN⟩ := hv
  have hx := B.exec
  have hb := B.bytes
  have hr := B.returns
  have hlocks := B.notSynchronized
  have hts := atoms_spec (ws := wsX8_mean) B.pre
  have hown := findClass_of_methodNamed B.named
  have hown : s.vm.findClass RX8 = some m.cls := hown
  have hiX8 : ∀ w ∈ u_ws RX8 TX8 32, w ∈ wsX8_mean := fun w9 hw9 => List.mem_cons_of_mem _ (igX8 w9 hw9)
  have fl253 := hts (.fieldLink RX8 253 "HalfScalesModel" "toldSum" "J") (List.mem_cons_of_mem _ (hs_inG 4 105 rfl rfl))
  have fl256 := hts (.fieldLink RX8 256 "HalfScalesModel" "allWays" "J") (List.mem_cons_of_mem _ (hs_inG 4 106 rfl rfl))
  have kl259 := hts (.constantLong RX8 259 (10)) (List.mem_cons_of_mem _ (hs_inG 5 200 rfl rfl))
  have kl261 := hts (.constantLong RX8 261 (-1)) (List.mem_cons_of_mem _ (hs_inG 5 201 rfl rfl))
  subst hsz
  have hD := hD0.self (sz := s.heap.size)
  generalize hAe : va_A [oq7 mo mo_st mo_at mo_isKept (nI mo_pe) (nI mo_hm) mo_draft (nI mo_dp) (nI mo_dh) mo_toldLines mo_highest mo_tape (nI mo_tl) (nI mo_ps) (nI mo_fr) mo_sort mo_value (nI mo_ft) mo_wrongAt mo_row mo_orderMany (nI mo_fo) mo_lightest mo_heaviest mo_before mo_justSum mo_toldSum mo_allWays mo_lanes mo_sizes mo_cells mo_torn mo_had, oqI k mo_st 132 (sf), oqI k mo_at 44 (af)] s.heap.size = A at hD ⊢
  have hA : ∀ q : Nat, s.heap.size ≤ q → A q := fun q h => by rw [← hAe]; exact Or.inr h
  have hS : va_S A s.heap s.heap [] := va_S.rf
  have hl := lv_entry ([.ref mo, .int v, .int kk, .int what]) (n := 4) (Nat.le_of_ble_eq_true rfl)
  rw [lg_entry_eq]
  generalize (lg_sl ([.ref mo, .int v, .int kk, .int what]) ++ List.replicate (4 - (lg_sl ([.ref mo, .int v, .int kk, .int what])).length) Slot.unset).toArray = ls at hl ⊢
  have hl : lv_has ls 4 [(0, .ref mo), (1, .int v), (2, .int kk), (3, .int what)] := hl
  have hP : va_P D vwCl [oq7 mo mo_st mo_at mo_isKept (nI mo_pe) (nI mo_hm) mo_draft (nI mo_dp) (nI mo_dh) mo_toldLines mo_highest mo_tape (nI mo_tl) (nI mo_ps) (nI mo_fr) mo_sort mo_value (nI mo_ft) mo_wrongAt mo_row mo_orderMany (nI mo_fo) mo_lightest mo_heaviest mo_before mo_justSum mo_toldSum mo_allWays mo_lanes mo_sizes mo_cells mo_torn mo_had, oqI k mo_st 132 (sf), oqI k mo_at 44 (af)] s.heap := hP
  refine lv_iload_n hx hb dX8_mean_0 rfl (lv_at hl 1 rfl) ?_
  refine lv_i2l hx hb dX8_mean_1 rfl ?_
  refine lv_lconst (v := 0) hx hb dX8_mean_2 (by decide) ?_
  refine lv_ldc2 hx hb hown kl259 dX8_mean_3 ?_
  refine hs_pi (va_runS (As := [.long (((v) : Int32).toInt64), .long 0, .long 10]) (rest := []) ⟨hx, hb, hml, hown, hts⟩ (gm_in l D k _ v 0 10) (va_cwS 3 hts gX8_mean_X8_in rfl rfl rfl hq_X8_in ⟨Nat.le_of_ble_eq_true rfl, Nat.le_of_ble_eq_true rfl⟩) (hs_preS hK hN (hs_subP (w := []) hP [] rfl) (hD.sub (ws' := []) [] rfl rfl)) rfl rfl hl.1 rfl (lv_room (Nat.le_of_ble_eq_true rfl)) dX8_mean_6 ⟨Nat.le_of_ble_eq_true rfl, Nat.le_of_ble_eq_true rfl⟩) hP hD hS hA (fun r_1 u_3 H locs hw_2 hP hS => ?_)
  refine hs_topi (hsb (hsin v 0 10)) hw_2 ?_
  refine lv_if_eq (tgt := 27) hx hb dX8_mean_9 rfl (fun c_4 => ?_) (fun c_4 => ?_)
  · refine lv_ldc2 hx hb hown kl261 dX8_mean_27 ?_
    exact hs_lret hx hb hr hlocks hK hP hD hS (af, mo_justSum, mo_toldSum, mo_allWays) [0, 1, 2] rfl (hs_upnd rfl) dX8_mean_30 ((by rw [A_meM, if_neg (by rw [hs_n0 c_4, Bool.false_and, Bool.false_and]; decide)]))
  · refine lv_aload_n hx hb dX8_mean_12 rfl (lv_at hl 0 rfl) ?_
    refine lv_iload_n hx hb dX8_mean_13 rfl (lv_at hl 2 rfl) ?_
    refine hs_ciM (va_runV (As := [.int kk]) (rest := []) ⟨hx, hb, hml, hown, hts⟩ (gm_isCut l D k _ mo mo_st mo_at mo_isKept mo_pe mo_hm mo_draft mo_dp mo_dh mo_toldLines mo_highest mo_tape mo_tl mo_ps mo_fr mo_sort mo_value mo_ft mo_wrongAt mo_row mo_orderMany mo_fo mo_lightest mo_heaviest mo_before mo_justSum mo_toldSum mo_allWays mo_lanes mo_sizes mo_cells mo_torn mo_had sf c0 kk e0 (by omega)) (cwV 1 hts gX8_mean_X8_isCut rfl rfl rfl ⟨rfl, hq_X8_isCut⟩ ⟨Nat.le_of_ble_eq_true rfl, Nat.le_of_ble_eq_true rfl⟩) (hs_preV hK hN (hs_subP (w := [_, _]) hP [0, 1] rfl) (hD.sub (ws' := [_, _]) [0, 1] (hs_upnd rfl) rfl) (ci := 7) (q0 := 0) rfl rfl) rfl rfl hl.1 rfl (lv_room (Nat.le_of_ble_eq_true rfl)) dX8_mean_14 ⟨Nat.le_of_ble_eq_true rfl, Nat.le_of_ble_eq_true rfl⟩) hP hD hS hA [false, false, true] [_] [_, _] rfl [0, 1] rfl [0, 1] (fun u_7 => [_, _]) (fun _ => rfl) (hs_upnd rfl) [false, false, true] (fun u_7 => [_, _, _]) (fun _ => rfl) (fun r_5 u_7 H locs hw_6 hP hD hS => ?_)
    refine hs_topi (hsb (hslt1 kk c0)) hw_6 ?_
    refine lv_if_eq (tgt := 27) hx hb dX8_mean_17 rfl (fun c_8 => ?_) (fun c_8 => ?_)
    · refine lv_ldc2 hx hb hown kl261 dX8_mean_27 ?_
      exact hs_lret hx hb hr hlocks hK hP hD hS (af, mo_justSum, mo_toldSum, mo_allWays) [0, 1, 2] rfl (hs_upnd rfl) dX8_mean_30 ((by rw [A_meM, if_neg (by rw [hs_n0 c_8, Bool.and_false, Bool.false_and]; decide)]))
    · refine lv_iload_n hx hb dX8_mean_20 rfl (lv_at hl 3 rfl) ?_
      refine hs_pi (va_runS (As := [.int what]) (rest := []) ⟨hx, hb, hml, hown, hts⟩ (gm_isPart l D k _ what) (va_cwS 1 hts gX8_mean_X8_isPart rfl rfl rfl hq_X8_isPart ⟨Nat.le_of_ble_eq_true rfl, Nat.le_of_ble_eq_true rfl⟩) (hs_preS hK hN (hs_subP (w := []) hP [] rfl) (hD.sub (ws' := []) [] rfl rfl)) rfl rfl hl.1 rfl (lv_room (Nat.le_of_ble_eq_true rfl)) dX8_mean_21 ⟨Nat.le_of_ble_eq_true rfl, Nat.le_of_ble_eq_true rfl⟩) hP hD hS hA (fun r_9 u_11 H locs hw_10 hP hS => ?_)
      refine hs_topi (hsb (hsin what 0 1)) hw_10 ?_
      refine lv_if_ne (tgt := 31) hx hb dX8_mean_24 rfl (fun c_12 => ?_) (fun c_12 => ?_)
      · obtain ⟨vv, -, hvv, rfl⟩ := hs_rng (lo := 0) (hi := 10) (by decide) (by decide) (hs_nb c_4)
        obtain ⟨jx, hjx, ejx⟩ := A_jtb (v := A_vfm c0 sf kk) mo_pe (by omega)
        refine lv_aload_n hx hb dX8_mean_31 rfl (lv_at hl 0 rfl) ?_
        refine lv_iload_n hx hb dX8_mean_32 rfl (lv_at hl 1 rfl) ?_
        refine lv_iload_n hx hb dX8_mean_33 rfl (lv_at hl 2 rfl) ?_
        refine hs_cvM (va_runV (As := [.int (nI vv), .int kk]) (rest := []) ⟨hx, hb, hml, hown, hts⟩ (gr_findCourt l D k _ mo mo_st mo_at mo_isKept mo_pe mo_hm mo_draft mo_dp mo_dh mo_toldLines mo_highest mo_tape mo_tl mo_ps mo_fr mo_sort mo_value mo_ft mo_wrongAt mo_row mo_orderMany mo_fo mo_lightest mo_heaviest mo_before mo_justSum mo_toldSum mo_allWays mo_lanes mo_sizes mo_cells mo_torn mo_had sf c0 c3 c4 af (nI vv) kk e0 h0 h02 e3 h3 e4 h4 hpe hm2 hm5) (cwV 2 hts gX8_mean_X8_findCourt rfl rfl rfl ⟨rfl, hq_X8_findCourt⟩ ⟨Nat.le_of_ble_eq_true rfl, Nat.le_of_ble_eq_true rfl⟩) (hs_preV hK hN (hs_subP (w := [_, _, _]) hP [0, 1, 2] rfl) (hD.sub (ws' := [_, _, _]) [0, 1, 2] (hs_upnd rfl) rfl) (ci := 7) (q0 := 0) rfl rfl) rfl rfl hl.1 rfl (lv_room (Nat.le_of_ble_eq_true rfl)) dX8_mean_34 ⟨Nat.le_of_ble_eq_true rfl, Nat.le_of_ble_eq_true rfl⟩) hP hD hS hA [false, false, false] [] [_, _, _] rfl [0, 1, 2] rfl [0, 1, 2] (fun u_15 => [_, _, _]) (fun _ => rfl) (hs_upnd rfl) [false, false, false] (fun u_15 => [_, _, _]) (fun _ => rfl) (fun u_15 H locs hw_14 hP hD hS => ?_)
        have hw_14 : u_15.2.1 = A_jS (nI vv) (A_jt (A_vfm c0 sf kk) mo_pe) mo_pe (2 ^ mo_pe) ∧ u_15.2.2.1 = A_tS (nI vv) (A_jt (A_vfm c0 sf kk) mo_pe) mo_pe (2 ^ mo_pe) ∧ u_15.2.2.2 = (hspw 10 mo_pe).toInt64 := hw_14
        refine lv_aload_n hx hb dX8_mean_37 rfl (lv_at hl 0 rfl) ?_
        refine va_get (D := D) (ci := 7) (v := .long u_15.2.2.1) (C := RX8) (T := TX8) (N := 32) hx hb hts hiX8 hown hK hP 0 rfl rfl 25 (Nat.le_of_ble_eq_true rfl) fl253 (fun _ h9 => h9) rfl dX8_mean_38 ?_
        refine lv_aload_n hx hb dX8_mean_41 rfl (lv_at hl 0 rfl) ?_
        refine va_get (D := D) (ci := 7) (v := .long u_15.2.2.2) (C := RX8) (T := TX8) (N := 32) hx hb hts hiX8 hown hK hP 0 rfl rfl 26 (Nat.le_of_ble_eq_true rfl) fl256 (fun _ h9 => h9) rfl dX8_mean_42 ?_
        refine lv_iload_n hx hb dX8_mean_45 rfl (lv_at hl 3 rfl) ?_
        refine hs_pl (va_runS (As := [.long u_15.2.2.1, .long u_15.2.2.2, .int what]) (rest := []) ⟨hx, hb, hml, hown, hts⟩ (gr_told l D k _ u_15.2.2.1 u_15.2.2.2 what (by rw [hw_14.2.1, ejx]; exact (cou_s mo_pe (by omega) vv (by omega) jx hjx)) (by rw [hw_14.2.2]; exact (cou_b mo_pe (by omega)).2)) (va_cwS 3 hts gX8_mean_X8_told rfl rfl rfl hq_X8_told ⟨Nat.le_of_ble_eq_true rfl, Nat.le_of_ble_eq_true rfl⟩) (hs_preS hK hN (hs_subP (w := []) hP [] rfl) (hD.sub (ws' := []) [] rfl rfl)) rfl rfl hl.1 rfl (lv_room (Nat.le_of_ble_eq_true rfl)) dX8_mean_46 ⟨Nat.le_of_ble_eq_true rfl, Nat.le_of_ble_eq_true rfl⟩) hP hD hS hA (fun r_16 u_18 H locs hw_17 hP hS => ?_)
        refine hs_topl (A_lo u_15.2.2.1 u_15.2.2.2 what) hw_17 ?_
        exact hs_lret hx hb hr hlocks hK hP hD hS (u_15.1, u_15.2.1, u_15.2.2.1, u_15.2.2.2) [0, 1, 2] rfl (hs_upnd rfl) dX8_mean_49 ((by rw [A_meM, if_pos (by rw [hs_nb c_4, hs_nb c_8, hs_nb c_12]; rfl), hw_14.2.1, hw_14.2.2]))
      · refine lv_ldc2 hx hb hown kl261 dX8_mean_27 ?_
        exact hs_lret hx hb hr hlocks hK hP hD hS (af, mo_justSum, mo_toldSum, mo_allWays) [0, 1, 2] rfl (hs_upnd rfl) dX8_mean_30 ((by rw [A_meM, if_neg (by rw [hs_n0 c_12, Bool.and_false]; decide)]))
