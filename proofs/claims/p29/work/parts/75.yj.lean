set_option maxHeartbeats 4000000 in
set_option maxRecDepth 100000 in
theorem gr_readLine (l : Launch) (D : va_G) (k : Nat → ClassId) (sz : Nat) (mo : Nat) (mo_st : Nat) (mo_at : Nat) (mo_isKept : Nat) (mo_pe : Nat) (mo_hm : Nat) (mo_draft : Nat) (mo_dp : Nat) (mo_dh : Nat) (mo_toldLines : Int32) (mo_highest : Int32) (mo_tape : Nat) (mo_tl : Nat) (mo_ps : Nat) (mo_fr : Nat) (mo_sort : Int32) (mo_value : Int32) (mo_ft : Nat) (mo_wrongAt : Int32) (mo_row : Nat) (mo_orderMany : Int32) (mo_fo : Nat) (mo_lightest : Int32) (mo_heaviest : Int32) (mo_before : Nat) (mo_justSum : Int64) (mo_toldSum : Int64) (mo_allWays : Int64) (mo_lanes : Nat) (mo_sizes : Nat) (mo_cells : Nat) (mo_torn : Int32) (mo_had : Nat) (tf : Nat → Int32) (df : Nat → Int32) (fm : Int32) (pl : Int32) (kd : Int32) (st : Nat) (be : Nat) (va : Int32) (d_N : Nat → Nat) (d_J : Nat → Int32) (d_F : Nat → Nat → Int32) (to : Int32) (ta : Nat) (ht : mo_tl ≤ 160) (hps : mo_ps ≤ mo_tl) (hfr : mo_fr ≤ 160) (hft : mo_ft ≤ 7) (hby : ∀ q, q < mo_tl → ¬ tf q < 0) (hdr : drS df) (hdp : mo_dp ≤ 4) (hdh : mo_dh ≤ 5 ∧ 2 ≤ mo_dh) (hft0 : mo_ft = 0) (hfp2 : mo_fr ≤ mo_ps) (hN0 : thN d_N) (hrd : rDr d_N d_J d_F df mo_dp mo_dh mo_highest) (hto : to = nI ta) (htl : mo_toldLines = nI (2 * ta)) (hta : ta < 256) (hsy : hSy fm pl kd st be va mo_ft mo_wrongAt mo_sort mo_fr mo_ps mo_value) : MV l yX8_readLine wsX8_readLine ({ frames := 5, cells := 0, slots := 0, locals := 113 }) D k [.ref mo] [oq7 mo mo_st mo_at mo_isKept (nI mo_pe) (nI mo_hm) mo_draft (nI mo_dp) (nI mo_dh) mo_toldLines mo_highest mo_tape (nI mo_tl) (nI mo_ps) (nI mo_fr) mo_sort mo_value (nI mo_ft) mo_wrongAt mo_row mo_orderMany (nI mo_fo) mo_lightest mo_heaviest mo_before mo_justSum mo_toldSum mo_allWays mo_lanes mo_sizes mo_cells mo_torn mo_had, oqI k mo_tape 160 (tf), oqI k mo_draft 44 (df)] sz (fun (u : (((Nat × Nat) × Int32 × Int32 × Nat × Int32) × (Nat → Int32) × Int32 × Nat × Nat) × Int32) => ((u.1.1.1.1 ≤ mo_tl ∧ u.1.1.1.2 ≤ 160 ∧ u.1.1.2.2.2.1 ≤ 7 ∧ (u.1.1.2.2.2.1 = 0 → (mo_ft = 0 ∧ mo_ps ≤ u.1.1.1.2 ∧ u.1.1.1.2 ≤ u.1.1.1.1 ∧ (u.1.1.2.1 = 0 ∨ u.1.1.1.2 < u.1.1.1.1)))) ∧ drS u.1.2.1 ∧ u.1.2.2.2.1 ≤ 4 ∧ u.1.2.2.2.2 ≤ 5 ∧ (u.1.1.2.2.2.1 = 0 → 2 ≤ u.1.2.2.2.2)) ∧ hSyU ((cTL tf mo_tl (cLn tf kd st be) ((fm, pl, to), (kd, st, be, va), d_N, d_J, d_F)).1.1, (cTL tf mo_tl (cLn tf kd st be) ((fm, pl, to), (kd, st, be, va), d_N, d_J, d_F)).1.2.1) (cTL tf mo_tl (cLn tf kd st be) ((fm, pl, to), (kd, st, be, va), d_N, d_J, d_F)).2.1 u.1.1 ∧ (u.1.1.2.2.2.1 = 0 → (rDr (cTL tf mo_tl (cLn tf kd st be) ((fm, pl, to), (kd, st, be, va), d_N, d_J, d_F)).2.2.1 (cTL tf mo_tl (cLn tf kd st be) ((fm, pl, to), (kd, st, be, va), d_N, d_J, d_F)).2.2.2.1 (cTL tf mo_tl (cLn tf kd st be) ((fm, pl, to), (kd, st, be, va), d_N, d_J, d_F)).2.2.2.2 u.1.2.1 u.1.2.2.2.1 u.1.2.2.2.2 u.1.2.2.1 ∧ ∃ tb : Nat, tb < 256 ∧ (cTL tf mo_tl (cLn tf kd st be) ((fm, pl, to), (kd, st, be, va), d_N, d_J, d_F)).1.2.2 = nI tb ∧ u.2 = nI (2 * tb)))) (fun (u : (((Nat × Nat) × Int32 × Int32 × Nat × Int32) × (Nat → Int32) × Int32 × Nat × Nat) × Int32) => [oq7 mo mo_st mo_at mo_isKept (nI mo_pe) (nI mo_hm) mo_draft (nI (u.1.2.2.2.1)) (nI (u.1.2.2.2.2)) u.2 u.1.2.2.1 mo_tape (nI mo_tl) (nI (u.1.1.1.1)) (nI (u.1.1.1.2)) u.1.1.2.1 u.1.1.2.2.1 (nI (u.1.1.2.2.2.1)) u.1.1.2.2.2.2 mo_row mo_orderMany (nI mo_fo) mo_lightest mo_heaviest mo_before mo_justSum mo_toldSum mo_allWays mo_lanes mo_sizes mo_cells mo_torn mo_had, oqI k mo_tape 160 (tf), oqI k mo_draft 44 (u.1.2.1)]) := by
  refine Met.ofW (cc := cX8_readLine) (maxL := 2) (ret := none) hpn_X8 rfl ?_
  intro p e s m args below meth c s₁ B hml hv
  obtain ⟨rfl, hsz, hP, hK, hD0, hN⟩ := hv
  have hx := B.exec
  have hb := B.bytes
  have hr := B.returns
  have hlocks := B.notSynchronized
  have hts := atoms_spec (ws := wsX8_readLine) B.pre
  have hown := findClass_of_methodNamed B.named
  have hown : s.vm.findClass RX8 = some m.cls := hown
  have hiX8 : ∀ w ∈ u_ws RX8 TX8 32, w ∈ wsX8_readLine := fun w9 hw9 => List.mem_cons_of_mem _ (igX8 w9 hw9)
  have fl78 := hts (.fieldLink RX8 78 "HalfScalesModel" "fault" "I") (List.mem_cons_of_mem _ (hs_inG 4 96 rfl rfl))
  have fl101 := hts (.fieldLink RX8 101 "HalfScalesModel" "sort" "I") (List.mem_cons_of_mem _ (hs_inG 4 94 rfl rfl))
  have fl50 := hts (.fieldLink RX8 50 "HalfScalesModel" "dPeople" "I") (List.mem_cons_of_mem _ (hs_inG 4 86 rfl rfl))
  have fl57 := hts (.fieldLink RX8 57 "HalfScalesModel" "toldLines" "I") (List.mem_cons_of_mem _ (hs_inG 4 88 rfl rfl))
  have fl20 := hts (.fieldLink RX8 20 "HalfScalesModel" "draft" "[I") (List.mem_cons_of_mem _ (hs_inG 4 85 rfl rfl))
  obtain ⟨hA1, hA2, hA3, hA4, hA5, hA6⟩ := hSy_0 hsy hft0
  subst hA1 hA3 hA4 hA5 hto
  obtain ⟨I0, I1, ⟨I2, I2b⟩, I3, I4⟩ := id hN0
  have hdp1 := hrd.2.1.1
  subst hsz
  have hD := hD0.self (sz := s.heap.size)
  generalize hAe : va_A [oq7 mo mo_st mo_at mo_isKept (nI mo_pe) (nI mo_hm) mo_draft (nI mo_dp) (nI mo_dh) mo_toldLines mo_highest mo_tape (nI mo_tl) (nI mo_ps) (nI mo_fr) mo_sort mo_value (nI mo_ft) mo_wrongAt mo_row mo_orderMany (nI mo_fo) mo_lightest mo_heaviest mo_before mo_justSum mo_toldSum mo_allWays mo_lanes mo_sizes mo_cells mo_torn mo_had, oqI k mo_tape 160 (tf), oqI k mo_draft 44 (df)] s.heap.size = A at hD ⊢
  have hA : ∀ q : Nat, s.heap.size ≤ q → A q := fun q h => by rw [← hAe]; exact Or.inr h
  have hS : va_S A s.heap s.heap [] := va_S.rf
  have hl := lv_entry ([.ref mo]) (n := 2) (Nat.le_of_ble_eq_true rfl)
  rw [lg_entry_eq]
  generalize (lg_sl ([.ref mo]) ++ List.replicate (2 - (lg_sl ([.ref mo])).length) Slot.unset).toArray = ls at hl ⊢
  have hl : lv_has ls 2 [(0, .ref mo)] := hl
  have hP : va_P D vwCl [oq7 mo mo_st mo_at mo_isKept (nI mo_pe) (nI mo_hm) mo_draft (nI mo_dp) (nI mo_dh) mo_toldLines mo_highest mo_tape (nI mo_tl) (nI mo_ps) (nI mo_fr) mo_sort mo_value (nI mo_ft) mo_wrongAt mo_row mo_orderMany (nI mo_fo) mo_lightest mo_heaviest mo_before mo_justSum mo_toldSum mo_allWays mo_lanes mo_sizes mo_cells mo_torn mo_had, oqI k mo_tape 160 (tf), oqI k mo_draft 44 (df)] s.heap := hP
  refine hs_join (D := D) (A := A) (H0 := s.heap) (pc1 := 127) (maxL := 2) (σ := Int32 × Int32 × Nat × Int32) (fun x => x.2.2.1 ≤ 7 ∧ (x.2.2.1 = 0 → ((cCN 0 pl (nI ta) mo_sort mo_fr (d_N 1) (d_N 3) (cLn tf mo_sort mo_fr mo_ps)).1 = 0 ∧ (x.1 = 4 → d_N 3 < 8) ∧ (x.1.toInt ≤ 3 → mo_dp < 4) ∧ (x.1 = 0 ∨ x.1 = 1 ∨ x.1 = 2 ∨ x.1 = 3 ∨ x.1 = 4 ∨ x.1 = 5 ∨ x.1 = 6 ∨ x.1 = 7 ∨ x.1 = 8) ∧ hmi x.1 = cLn tf mo_sort mo_fr mo_ps ∧ ∃ tb : Nat, tb < 256 ∧ (cCN 0 pl (nI ta) mo_sort mo_fr (d_N 1) (d_N 3) (cLn tf mo_sort mo_fr mo_ps)).2.2 = nI tb ∧ x.2.1 = nI (2 * tb))) ∧ (¬ x.2.2.1 = 0 → (¬ (cCN 0 pl (nI ta) mo_sort mo_fr (d_N 1) (d_N 3) (cLn tf mo_sort mo_fr mo_ps)).1 = 0 ∧ x.2.2.2 = (cCN 0 pl (nI ta) mo_sort mo_fr (d_N 1) (d_N 3) (cLn tf mo_sort mo_fr mo_ps)).2.1))) (fun x => [oq7 mo mo_st mo_at mo_isKept (nI mo_pe) (nI mo_hm) mo_draft (nI mo_dp) (nI mo_dh) (x.2.1) mo_highest mo_tape (nI mo_tl) (nI mo_ps) (nI mo_fr) mo_sort mo_value (nI (x.2.2.1)) (x.2.2.2) mo_row mo_orderMany (nI mo_fo) mo_lightest mo_heaviest mo_before mo_justSum mo_toldSum mo_allWays mo_lanes mo_sizes mo_cells mo_torn mo_had, oqI k mo_tape 160 (tf), oqI k mo_draft 44 (df)]) (fun x => [(1, .int (x.1)), (0, .ref mo)]) ?_ (fun kj127_0 => ?_)
  · intro x hI H locs ls hP hD hS hl
    obtain ⟨kk, jto, jfa, jwr⟩ := x
    try dsimp only at hI
    have hI127 := hI
    have hP : va_P D vwCl [oq7 mo mo_st mo_at mo_isKept (nI mo_pe) (nI mo_hm) mo_draft (nI mo_dp) (nI mo_dh) jto mo_highest mo_tape (nI mo_tl) (nI mo_ps) (nI mo_fr) mo_sort mo_value (nI jfa) jwr mo_row mo_orderMany (nI mo_fo) mo_lightest mo_heaviest mo_before mo_justSum mo_toldSum mo_allWays mo_lanes mo_sizes mo_cells mo_torn mo_had, oqI k mo_tape 160 (tf), oqI k mo_draft 44 (df)] H := hP
    have hD : va_D A [oq7 mo mo_st mo_at mo_isKept (nI mo_pe) (nI mo_hm) mo_draft (nI mo_dp) (nI mo_dh) jto mo_highest mo_tape (nI mo_tl) (nI mo_ps) (nI mo_fr) mo_sort mo_value (nI jfa) jwr mo_row mo_orderMany (nI mo_fo) mo_lightest mo_heaviest mo_before mo_justSum mo_toldSum mo_allWays mo_lanes mo_sizes mo_cells mo_torn mo_had, oqI k mo_tape 160 (tf), oqI k mo_draft 44 (df)] := hD
    have hl : lv_has ls 2 [(1, .int kk), (0, .ref mo)] := hl
    refine lv_aload_n hx hb dX8_readLine_127 rfl (lv_at hl 1 rfl) ?_
    refine hs_cvM (va_runV (As := []) (rest := []) ⟨hx, hb, hml, hown, hts⟩ (gr_takes l D k _ mo mo_st mo_at mo_isKept mo_pe mo_hm mo_draft mo_dp mo_dh jto mo_highest mo_tape mo_tl mo_ps mo_fr mo_sort mo_value jfa jwr mo_row mo_orderMany mo_fo mo_lightest mo_heaviest mo_before mo_justSum mo_toldSum mo_allWays mo_lanes mo_sizes mo_cells mo_torn mo_had tf (by omega) (by omega) (by omega) (by omega) hby) (cwV 0 hts gX8_readLine_X8_takes rfl rfl rfl ⟨rfl, hq_X8_takes⟩ ⟨Nat.le_of_ble_eq_true rfl, Nat.le_of_ble_eq_true rfl⟩) (hs_preV hK hN (hs_subP (w := [_, _]) hP [0, 1] rfl) (hD.sub (ws' := [_, _]) [0, 1] (hs_upnd rfl) rfl) (ci := 7) (q0 := 0) rfl rfl) rfl rfl hl.1 rfl (lv_room (Nat.le_of_ble_eq_true rfl)) dX8_readLine_128 ⟨Nat.le_of_ble_eq_true rfl, Nat.le_of_ble_eq_true rfl⟩) hP hD hS hA [false, false, true] [_] [_, _] rfl [0, 1] rfl [0, 1] (fun u_3 => [_, _]) (fun _ => rfl) (hs_upnd rfl) [false, false, true] (fun u_3 => [_, _, _]) (fun _ => rfl) (fun u_3 H locs hw_2 hP hD hS => ?_)
    have hw_2 : (u_3.1.1 ≤ mo_tl ∧ u_3.1.2 ≤ 160 ∧ u_3.2.2.2.1 ≤ 7 ∧ (u_3.2.2.2.1 = 0 → (jfa = 0 ∧ mo_ps ≤ u_3.1.2 ∧ u_3.1.2 ≤ u_3.1.1 ∧ (u_3.2.1 = 0 ∨ u_3.1.2 < u_3.1.1)))) ∧ (jfa = 0 → ∀ pl : Int32, hSyU (0, pl) (htok tf mo_tl mo_ps) u_3) ∧ (¬ jfa = 0 → u_3 = ((mo_ps, mo_fr), mo_sort, mo_value, jfa, jwr)) := hw_2
    refine lv_aload_n hx hb dX8_readLine_131 rfl (lv_at hl 1 rfl) ?_
    refine va_get (D := D) (ci := 7) (v := .int (nI (u_3.2.2.2.1))) (C := RX8) (T := TX8) (N := 32) hx hb hts hiX8 hown hK hP 0 rfl rfl 16 (Nat.le_of_ble_eq_true rfl) fl78 (fun _ h9 => h9) rfl dX8_readLine_132 ?_
    refine lv_if_le (tgt := 139) hx hb dX8_readLine_135 rfl (fun c_4 => ?_) (fun c_4 => ?_)
    · have nc_4 : (u_3.2.2.2.1) ≤ 0 := (nI_leI (a := (u_3.2.2.2.1)) (b := 0) (by omega) (by omega)).mp c_4
      refine lv_aload_n hx hb dX8_readLine_139 rfl (lv_at hl 1 rfl) ?_
      refine lv_iload_n hx hb dX8_readLine_140 rfl (lv_at hl 0 rfl) ?_
      refine hs_cvM (va_runV (As := [.int kk]) (rest := []) ⟨hx, hb, hml, hown, hts⟩ (gr_readLineOf l D k _ mo mo_st mo_at mo_isKept mo_pe mo_hm mo_draft mo_dp mo_dh jto mo_highest mo_tape mo_tl u_3.1.1 u_3.1.2 u_3.2.1 u_3.2.2.1 u_3.2.2.2.1 u_3.2.2.2.2 mo_row mo_orderMany mo_fo mo_lightest mo_heaviest mo_before mo_justSum mo_toldSum mo_allWays mo_lanes mo_sizes mo_cells mo_torn mo_had tf df kk ((cCN 0 pl (nI ta) mo_sort mo_fr (d_N 1) (d_N 3) (cLn tf mo_sort mo_fr mo_ps)).1) ((cCN 0 pl (nI ta) mo_sort mo_fr (d_N 1) (d_N 3) (cLn tf mo_sort mo_fr mo_ps)).2.1) ((htok tf mo_tl mo_ps).1) ((htok tf mo_tl mo_ps).2.1) ((htok tf mo_tl mo_ps).2.2.1) ((htok tf mo_tl mo_ps).2.2.2) d_N d_J d_F ((cCN 0 pl (nI ta) mo_sort mo_fr (d_N 1) (d_N 3) (cLn tf mo_sort mo_fr mo_ps)).2.2) (by omega) (by omega) (by omega) (by omega) hby hdr (by omega) (by omega) (fun h => (hw_2.1.2.2.2 h).2.2) (hI127.2.1 (hw_2.1.2.2.2 (by omega)).1).2.2.2.1 (hI127.2.1 (hw_2.1.2.2.2 (by omega)).1).2.1 (hI127.2.1 (hw_2.1.2.2.2 (by omega)).1).2.2.1 hN0 hrd (hSyU_b (b := ((cCN 0 pl (nI ta) mo_sort mo_fr (d_N 1) (d_N 3) (cLn tf mo_sort mo_fr mo_ps)).1, (cCN 0 pl (nI ta) mo_sort mo_fr (d_N 1) (d_N 3) (cLn tf mo_sort mo_fr mo_ps)).2.1)) (t := htok tf mo_tl mo_ps) (hI127.2.1 (hw_2.1.2.2.2 (by omega)).1).1 (hw_2.2.1 (hw_2.1.2.2.2 (by omega)).1))) (cwV 1 hts gX8_readLine_X8_readLineOf rfl rfl rfl ⟨rfl, hq_X8_readLineOf⟩ ⟨Nat.le_of_ble_eq_true rfl, Nat.le_of_ble_eq_true rfl⟩) (hs_preV hK hN (hs_subP (w := [_, _, _]) hP [0, 1, 2] rfl) (hD.sub (ws' := [_, _, _]) [0, 1, 2] (hs_upnd rfl) rfl) (ci := 7) (q0 := 0) rfl rfl) rfl rfl hl.1 rfl (lv_room (Nat.le_of_ble_eq_true rfl)) dX8_readLine_141 ⟨Nat.le_of_ble_eq_true rfl, Nat.le_of_ble_eq_true rfl⟩) hP hD hS hA [false, false, false] [] [_, _, _] rfl [0, 1, 2] rfl [0, 1, 2] (fun u_7 => [_, _, _]) (fun _ => rfl) (hs_upnd rfl) [false, false, false] (fun u_7 => [_, _, _]) (fun _ => rfl) (fun u_7 H locs hw_6 hP hD hS => ?_)
      have hw_6 : ((u_7.1.1.1 ≤ mo_tl ∧ u_7.1.1.2 ≤ 160 ∧ u_7.1.2.2.2.1 ≤ 7 ∧ (u_7.1.2.2.2.1 = 0 → (u_3.2.2.2.1 = 0 ∧ u_3.1.2 ≤ u_7.1.1.2 ∧ u_7.1.1.2 ≤ u_7.1.1.1 ∧ (u_7.1.2.1 = 0 ∨ u_7.1.1.2 < u_7.1.1.1)))) ∧ drS u_7.2.1 ∧ u_7.2.2.2.1 ≤ 4 ∧ u_7.2.2.2.2 ≤ 5 ∧ (u_7.1.2.2.2.1 = 0 → 2 ≤ u_7.2.2.2.2)) ∧ hSyU (cBd tf mo_tl (hmi kk) (((cCN 0 pl (nI ta) mo_sort mo_fr (d_N 1) (d_N 3) (cLn tf mo_sort mo_fr mo_ps)).1), ((cCN 0 pl (nI ta) mo_sort mo_fr (d_N 1) (d_N 3) (cLn tf mo_sort mo_fr mo_ps)).2.1), ((cCN 0 pl (nI ta) mo_sort mo_fr (d_N 1) (d_N 3) (cLn tf mo_sort mo_fr mo_ps)).2.2)) (((htok tf mo_tl mo_ps).1), ((htok tf mo_tl mo_ps).2.1), ((htok tf mo_tl mo_ps).2.2.1), ((htok tf mo_tl mo_ps).2.2.2)) (d_N, d_J, d_F)).1 (cBd tf mo_tl (hmi kk) (((cCN 0 pl (nI ta) mo_sort mo_fr (d_N 1) (d_N 3) (cLn tf mo_sort mo_fr mo_ps)).1), ((cCN 0 pl (nI ta) mo_sort mo_fr (d_N 1) (d_N 3) (cLn tf mo_sort mo_fr mo_ps)).2.1), ((cCN 0 pl (nI ta) mo_sort mo_fr (d_N 1) (d_N 3) (cLn tf mo_sort mo_fr mo_ps)).2.2)) (((htok tf mo_tl mo_ps).1), ((htok tf mo_tl mo_ps).2.1), ((htok tf mo_tl mo_ps).2.2.1), ((htok tf mo_tl mo_ps).2.2.2)) (d_N, d_J, d_F)).2.1 u_7.1 ∧ (u_7.1.2.2.2.1 = 0 → rDr (cBd tf mo_tl (hmi kk) (((cCN 0 pl (nI ta) mo_sort mo_fr (d_N 1) (d_N 3) (cLn tf mo_sort mo_fr mo_ps)).1), ((cCN 0 pl (nI ta) mo_sort mo_fr (d_N 1) (d_N 3) (cLn tf mo_sort mo_fr mo_ps)).2.1), ((cCN 0 pl (nI ta) mo_sort mo_fr (d_N 1) (d_N 3) (cLn tf mo_sort mo_fr mo_ps)).2.2)) (((htok tf mo_tl mo_ps).1), ((htok tf mo_tl mo_ps).2.1), ((htok tf mo_tl mo_ps).2.2.1), ((htok tf mo_tl mo_ps).2.2.2)) (d_N, d_J, d_F)).2.2.1 (cBd tf mo_tl (hmi kk) (((cCN 0 pl (nI ta) mo_sort mo_fr (d_N 1) (d_N 3) (cLn tf mo_sort mo_fr mo_ps)).1), ((cCN 0 pl (nI ta) mo_sort mo_fr (d_N 1) (d_N 3) (cLn tf mo_sort mo_fr mo_ps)).2.1), ((cCN 0 pl (nI ta) mo_sort mo_fr (d_N 1) (d_N 3) (cLn tf mo_sort mo_fr mo_ps)).2.2)) (((htok tf mo_tl mo_ps).1), ((htok tf mo_tl mo_ps).2.1), ((htok tf mo_tl mo_ps).2.2.1), ((htok tf mo_tl mo_ps).2.2.2)) (d_N, d_J, d_F)).2.2.2.1 (cBd tf mo_tl (hmi kk) (((cCN 0 pl (nI ta) mo_sort mo_fr (d_N 1) (d_N 3) (cLn tf mo_sort mo_fr mo_ps)).1), ((cCN 0 pl (nI ta) mo_sort mo_fr (d_N 1) (d_N 3) (cLn tf mo_sort mo_fr mo_ps)).2.1), ((cCN 0 pl (nI ta) mo_sort mo_fr (d_N 1) (d_N 3) (cLn tf mo_sort mo_fr mo_ps)).2.2)) (((htok tf mo_tl mo_ps).1), ((htok tf mo_tl mo_ps).2.1), ((htok tf mo_tl mo_ps).2.2.1), ((htok tf mo_tl mo_ps).2.2.2)) (d_N, d_J, d_F)).2.2.2.2 u_7.2.1 u_7.2.2.2.1 u_7.2.2.2.2 u_7.2.2.1) := hw_6
      refine lv_aload_n hx hb dX8_readLine_144 rfl (lv_at hl 1 rfl) ?_
      refine va_get (D := D) (ci := 7) (v := .int (nI (u_7.1.2.2.2.1))) (C := RX8) (T := TX8) (N := 32) hx hb hts hiX8 hown hK hP 0 rfl rfl 16 (Nat.le_of_ble_eq_true rfl) fl78 (fun _ h9 => h9) rfl dX8_readLine_145 ?_
      refine lv_if_ne (tgt := 169) hx hb dX8_readLine_148 rfl (fun c_8 => ?_) (fun c_8 => ?_)
      · have nc_8 : ¬ (u_7.1.2.2.2.1) = 0 := fun hq9 => c_8 ((nI_eq (a := (u_7.1.2.2.2.1)) (b := 0) (by omega) (by omega)).mpr hq9)
        refine lv_aload_n hx hb dX8_readLine_169 rfl (lv_at hl 1 rfl) ?_
        refine hs_cvM (va_runV (As := []) (rest := []) ⟨hx, hb, hml, hown, hts⟩ (gr_takes l D k _ mo mo_st mo_at mo_isKept mo_pe mo_hm mo_draft u_7.2.2.2.1 u_7.2.2.2.2 jto u_7.2.2.1 mo_tape mo_tl u_7.1.1.1 u_7.1.1.2 u_7.1.2.1 u_7.1.2.2.1 u_7.1.2.2.2.1 u_7.1.2.2.2.2 mo_row mo_orderMany mo_fo mo_lightest mo_heaviest mo_before mo_justSum mo_toldSum mo_allWays mo_lanes mo_sizes mo_cells mo_torn mo_had tf (by omega) (by omega) (by omega) (by omega) hby) (cwV 0 hts gX8_readLine_X8_takes rfl rfl rfl ⟨rfl, hq_X8_takes⟩ ⟨Nat.le_of_ble_eq_true rfl, Nat.le_of_ble_eq_true rfl⟩) (hs_preV hK hN (hs_subP (w := [_, _]) hP [0, 1] rfl) (hD.sub (ws' := [_, _]) [0, 1] (hs_upnd rfl) rfl) (ci := 7) (q0 := 0) rfl rfl) rfl rfl hl.1 rfl (lv_room (Nat.le_of_ble_eq_true rfl)) dX8_readLine_170 ⟨Nat.le_of_ble_eq_true rfl, Nat.le_of_ble_eq_true rfl⟩) hP hD hS hA [false, false, true] [_] [_, _] rfl [0, 1] rfl [0, 1] (fun u_11 => [_, _]) (fun _ => rfl) (hs_upnd rfl) [false, false, true] (fun u_11 => [_, _, _]) (fun _ => rfl) (fun u_11 H locs hw_10 hP hD hS => ?_)
        have hw_10 : (u_11.1.1 ≤ mo_tl ∧ u_11.1.2 ≤ 160 ∧ u_11.2.2.2.1 ≤ 7 ∧ (u_11.2.2.2.1 = 0 → (u_7.1.2.2.2.1 = 0 ∧ u_7.1.1.1 ≤ u_11.1.2 ∧ u_11.1.2 ≤ u_11.1.1 ∧ (u_11.2.1 = 0 ∨ u_11.1.2 < u_11.1.1)))) ∧ (u_7.1.2.2.2.1 = 0 → ∀ pl : Int32, hSyU (0, pl) (htok tf mo_tl u_7.1.1.1) u_11) ∧ (¬ u_7.1.2.2.2.1 = 0 → u_11 = ((u_7.1.1.1, u_7.1.1.2), u_7.1.2.1, u_7.1.2.2.1, u_7.1.2.2.2.1, u_7.1.2.2.2.2)) := hw_10
        have hzhw_10 : ¬ u_11.2.2.2.1 = 0 := fun h => nc_8 (hw_10.1.2.2.2 h).1
        exact hs_vret hx hb hr hlocks hK hP hD hS ((((u_11.1.1, u_11.1.2), u_11.2.1, u_11.2.2.1, u_11.2.2.2.1, u_11.2.2.2.2), u_7.2.1, u_7.2.2.1, u_7.2.2.2.1, u_7.2.2.2.2), jto) [0, 1, 2] rfl (hs_upnd rfl) dX8_readLine_173 (⟨⟨⟨by (try dsimp only); omega, by (try dsimp only); omega, by (try dsimp only); omega, fun h => by (try dsimp only at h); have a0 := hw_10.1.2.2.2 h; have a1 := hw_6.1.1.2.2.2 a0.1; have a2 := hw_2.1.2.2.2 a1.1; exact ⟨hft0, by (try dsimp only); omega, by (try dsimp only); omega, by (try dsimp only); exact a0.2.2.2⟩⟩, hw_6.1.2.1, hw_6.1.2.2.1, hw_6.1.2.2.2.1, fun h => by (try dsimp only at h ⊢); have a0 := hw_10.1.2.2.2 h; have a1 := hw_6.1.1.2.2.2 a0.1; have a2 := hw_2.1.2.2.2 a1.1; omega⟩, (by have hj0 := (hI127.2.1 (hw_2.1.2.2.2 (by omega)).1); have hof := hw_6.2.1; rw [hj0.2.2.2.2.1] at hof; have e9 := hw_10.2.2 nc_8; (try dsimp only); rw [e9]; exact rl_mft (f := tf) (len := mo_tl) (ln := cLn tf mo_sort mo_fr mo_ps) (x := ((0, pl, nI ta), (mo_sort, mo_fr, mo_ps, va), d_N, d_J, d_F)) hj0.1 hof nc_8), fun h => absurd h (by have e9 := hw_10.2.2 nc_8; (try dsimp only); rw [e9]; exact nc_8)⟩)
      · have nc_8 : (u_7.1.2.2.2.1) = 0 := (nI_eq (a := (u_7.1.2.2.2.1)) (b := 0) (by omega) (by omega)).mp c_8
        refine lv_aload_n hx hb dX8_readLine_151 rfl (lv_at hl 1 rfl) ?_
        refine lv_aload_n hx hb dX8_readLine_152 rfl (lv_at hl 1 rfl) ?_
        refine va_get (D := D) (ci := 7) (v := .int u_7.1.2.1) (C := RX8) (T := TX8) (N := 32) hx hb hts hiX8 hown hK hP 0 rfl rfl 14 (Nat.le_of_ble_eq_true rfl) fl101 (fun _ h9 => h9) rfl dX8_readLine_153 ?_
        refine lv_iconst (v := 3) hx hb dX8_readLine_156 hki_3 ?_
        refine lv_icmp_ne (tgt := 164) hx hb dX8_readLine_157 rfl (fun c_12 => ?_) (fun c_12 => ?_)
        · refine lv_iconst (v := 0) hx hb dX8_readLine_164 hki_0 ?_
          refine lv_iconst (v := 2) hx hb dX8_readLine_165 hki_2 ?_
          refine hs_cvM (va_runV (As := [.int 0, .int 2]) (rest := []) ⟨hx, hb, hml, hown, hts⟩ (gr_needs l D k _ mo mo_st mo_at mo_isKept mo_pe mo_hm mo_draft u_7.2.2.2.1 u_7.2.2.2.2 jto u_7.2.2.1 mo_tape mo_tl u_7.1.1.1 u_7.1.1.2 u_7.1.2.1 u_7.1.2.2.1 u_7.1.2.2.2.1 u_7.1.2.2.2.2 mo_row mo_orderMany mo_fo mo_lightest mo_heaviest mo_before mo_justSum mo_toldSum mo_allWays mo_lanes mo_sizes mo_cells mo_torn mo_had 0 2 (by omega) (by omega)) (cwV 2 hts gX8_readLine_X8_needs rfl rfl rfl ⟨rfl, hq_X8_needs⟩ ⟨Nat.le_of_ble_eq_true rfl, Nat.le_of_ble_eq_true rfl⟩) (hs_preV hK hN (hs_subP (w := [_]) hP [0] rfl) (hD.sub (ws' := [_]) [0] (hs_upnd rfl) rfl) (ci := 7) (q0 := 0) rfl rfl) rfl rfl hl.1 rfl (lv_room (Nat.le_of_ble_eq_true rfl)) dX8_readLine_166 ⟨Nat.le_of_ble_eq_true rfl, Nat.le_of_ble_eq_true rfl⟩) hP hD hS hA [false, true, true] [_, _] [_] rfl [0] rfl [0] (fun u_15 => [_]) (fun _ => rfl) (hs_upnd rfl) [false, true, true] (fun u_15 => [_, _, _]) (fun _ => rfl) (fun u_15 H locs hw_14 hP hD hS => ?_)
          have hw_14 : u_15.1 ≤ 7 ∧ (u_15.1 = 0 → u_7.1.2.2.2.1 = 0) ∧ ((0 : Int32) = 0 → ¬ u_15.1 = 0) ∧ u_15 = hNd u_7.1.2.2.2.1 u_7.1.2.2.2.2 u_7.1.1.2 0 2 := hw_14
          have hzhw_14 := hw_14.2.2.1 rfl
          refine lv_aload_n hx hb dX8_readLine_169 rfl (lv_at hl 1 rfl) ?_
          refine hs_cvM (va_runV (As := []) (rest := []) ⟨hx, hb, hml, hown, hts⟩ (gr_takes l D k _ mo mo_st mo_at mo_isKept mo_pe mo_hm mo_draft u_7.2.2.2.1 u_7.2.2.2.2 jto u_7.2.2.1 mo_tape mo_tl u_7.1.1.1 u_7.1.1.2 u_7.1.2.1 u_7.1.2.2.1 u_15.1 u_15.2 mo_row mo_orderMany mo_fo mo_lightest mo_heaviest mo_before mo_justSum mo_toldSum mo_allWays mo_lanes mo_sizes mo_cells mo_torn mo_had tf (by omega) (by omega) (by omega) (by omega) hby) (cwV 0 hts gX8_readLine_X8_takes rfl rfl rfl ⟨rfl, hq_X8_takes⟩ ⟨Nat.le_of_ble_eq_true rfl, Nat.le_of_ble_eq_true rfl⟩) (hs_preV hK hN (hs_subP (w := [_, _]) hP [0, 1] rfl) (hD.sub (ws' := [_, _]) [0, 1] (hs_upnd rfl) rfl) (ci := 7) (q0 := 0) rfl rfl) rfl rfl hl.1 rfl (lv_room (Nat.le_of_ble_eq_true rfl)) dX8_readLine_170 ⟨Nat.le_of_ble_eq_true rfl, Nat.le_of_ble_eq_true rfl⟩) hP hD hS hA [false, false, true] [_] [_, _] rfl [0, 1] rfl [0, 1] (fun u_18 => [_, _]) (fun _ => rfl) (hs_upnd rfl) [false, false, true] (fun u_18 => [_, _, _]) (fun _ => rfl) (fun u_18 H locs hw_17 hP hD hS => ?_)
          have hw_17 : (u_18.1.1 ≤ mo_tl ∧ u_18.1.2 ≤ 160 ∧ u_18.2.2.2.1 ≤ 7 ∧ (u_18.2.2.2.1 = 0 → (u_15.1 = 0 ∧ u_7.1.1.1 ≤ u_18.1.2 ∧ u_18.1.2 ≤ u_18.1.1 ∧ (u_18.2.1 = 0 ∨ u_18.1.2 < u_18.1.1)))) ∧ (u_15.1 = 0 → ∀ pl : Int32, hSyU (0, pl) (htok tf mo_tl u_7.1.1.1) u_18) ∧ (¬ u_15.1 = 0 → u_18 = ((u_7.1.1.1, u_7.1.1.2), u_7.1.2.1, u_7.1.2.2.1, u_15.1, u_15.2)) := hw_17
          have hzhw_17 : ¬ u_18.2.2.2.1 = 0 := fun h => hzhw_14 (hw_17.1.2.2.2 h).1
          exact hs_vret hx hb hr hlocks hK hP hD hS ((((u_18.1.1, u_18.1.2), u_18.2.1, u_18.2.2.1, u_18.2.2.2.1, u_18.2.2.2.2), u_7.2.1, u_7.2.2.1, u_7.2.2.2.1, u_7.2.2.2.2), jto) [0, 1, 2] rfl (hs_upnd rfl) dX8_readLine_173 (⟨⟨⟨by (try dsimp only); omega, by (try dsimp only); omega, by (try dsimp only); omega, fun h => by (try dsimp only at h); have a0 := hw_17.1.2.2.2 h; have a1 := hw_14.2.1 a0.1; have a2 := hw_6.1.1.2.2.2 a1; have a3 := hw_2.1.2.2.2 a2.1; exact ⟨hft0, by (try dsimp only); omega, by (try dsimp only); omega, by (try dsimp only); exact a0.2.2.2⟩⟩, hw_6.1.2.1, hw_6.1.2.2.1, hw_6.1.2.2.2.1, fun h => by (try dsimp only at h ⊢); have a0 := hw_17.1.2.2.2 h; have a1 := hw_14.2.1 a0.1; have a2 := hw_6.1.1.2.2.2 a1; have a3 := hw_2.1.2.2.2 a2.1; omega⟩, (by have hj0 := (hI127.2.1 (hw_2.1.2.2.2 (by omega)).1); have hof := hw_6.2.1; rw [hj0.2.2.2.2.1] at hof; have e9 := hw_17.2.2 hzhw_14; (try dsimp only); rw [e9]; exact rl_m2 (f := tf) (len := mo_tl) (ln := cLn tf mo_sort mo_fr mo_ps) (x := ((0, pl, nI ta), (mo_sort, mo_fr, mo_ps, va), d_N, d_J, d_F)) hj0.1 hof nc_8 c_12 hzhw_14 (by rw [hw_14.2.2.2, hNd, if_pos ⟨rfl, nc_8⟩])), fun h => absurd h (by have e9 := hw_17.2.2 hzhw_14; (try dsimp only); rw [e9]; exact hzhw_14)⟩)
        · refine lv_iconst (v := 1) hx hb dX8_readLine_160 hki_1 ?_
          refine lv_goto (tgt := 165) hx hb dX8_readLine_161 rfl ?_
          refine lv_iconst (v := 2) hx hb dX8_readLine_165 hki_2 ?_
          refine hs_cvM (va_runV (As := [.int 1, .int 2]) (rest := []) ⟨hx, hb, hml, hown, hts⟩ (gr_needs l D k _ mo mo_st mo_at mo_isKept mo_pe mo_hm mo_draft u_7.2.2.2.1 u_7.2.2.2.2 jto u_7.2.2.1 mo_tape mo_tl u_7.1.1.1 u_7.1.1.2 u_7.1.2.1 u_7.1.2.2.1 u_7.1.2.2.2.1 u_7.1.2.2.2.2 mo_row mo_orderMany mo_fo mo_lightest mo_heaviest mo_before mo_justSum mo_toldSum mo_allWays mo_lanes mo_sizes mo_cells mo_torn mo_had 1 2 (by omega) (by omega)) (cwV 2 hts gX8_readLine_X8_needs rfl rfl rfl ⟨rfl, hq_X8_needs⟩ ⟨Nat.le_of_ble_eq_true rfl, Nat.le_of_ble_eq_true rfl⟩) (hs_preV hK hN (hs_subP (w := [_]) hP [0] rfl) (hD.sub (ws' := [_]) [0] (hs_upnd rfl) rfl) (ci := 7) (q0 := 0) rfl rfl) rfl rfl hl.1 rfl (lv_room (Nat.le_of_ble_eq_true rfl)) dX8_readLine_166 ⟨Nat.le_of_ble_eq_true rfl, Nat.le_of_ble_eq_true rfl⟩) hP hD hS hA [false, true, true] [_, _] [_] rfl [0] rfl [0] (fun u_21 => [_]) (fun _ => rfl) (hs_upnd rfl) [false, true, true] (fun u_21 => [_, _, _]) (fun _ => rfl) (fun u_21 H locs hw_20 hP hD hS => ?_)
          have hw_20 : u_21.1 ≤ 7 ∧ (u_21.1 = 0 → u_7.1.2.2.2.1 = 0) ∧ ((1 : Int32) = 0 → ¬ u_21.1 = 0) ∧ u_21 = hNd u_7.1.2.2.2.1 u_7.1.2.2.2.2 u_7.1.1.2 1 2 := hw_20
          have hqhw_20 : u_21.1 = u_7.1.2.2.2.1 := by rw [hw_20.2.2.2, hNd, if_neg (fun z9 => absurd z9.1 (by decide))]
          have hzhw_20 : u_21.1 = 0 := hqhw_20.trans nc_8
          refine lv_aload_n hx hb dX8_readLine_169 rfl (lv_at hl 1 rfl) ?_
          refine hs_cvM (va_runV (As := []) (rest := []) ⟨hx, hb, hml, hown, hts⟩ (gr_takes l D k _ mo mo_st mo_at mo_isKept mo_pe mo_hm mo_draft u_7.2.2.2.1 u_7.2.2.2.2 jto u_7.2.2.1 mo_tape mo_tl u_7.1.1.1 u_7.1.1.2 u_7.1.2.1 u_7.1.2.2.1 u_21.1 u_21.2 mo_row mo_orderMany mo_fo mo_lightest mo_heaviest mo_before mo_justSum mo_toldSum mo_allWays mo_lanes mo_sizes mo_cells mo_torn mo_had tf (by omega) (by omega) (by omega) (by omega) hby) (cwV 0 hts gX8_readLine_X8_takes rfl rfl rfl ⟨rfl, hq_X8_takes⟩ ⟨Nat.le_of_ble_eq_true rfl, Nat.le_of_ble_eq_true rfl⟩) (hs_preV hK hN (hs_subP (w := [_, _]) hP [0, 1] rfl) (hD.sub (ws' := [_, _]) [0, 1] (hs_upnd rfl) rfl) (ci := 7) (q0 := 0) rfl rfl) rfl rfl hl.1 rfl (lv_room (Nat.le_of_ble_eq_true rfl)) dX8_readLine_170 ⟨Nat.le_of_ble_eq_true rfl, Nat.le_of_ble_eq_true rfl⟩) hP hD hS hA [false, false, true] [_] [_, _] rfl [0, 1] rfl [0, 1] (fun u_24 => [_, _]) (fun _ => rfl) (hs_upnd rfl) [false, false, true] (fun u_24 => [_, _, _]) (fun _ => rfl) (fun u_24 H locs hw_23 hP hD hS => ?_)
          have hw_23 : (u_24.1.1 ≤ mo_tl ∧ u_24.1.2 ≤ 160 ∧ u_24.2.2.2.1 ≤ 7 ∧ (u_24.2.2.2.1 = 0 → (u_21.1 = 0 ∧ u_7.1.1.1 ≤ u_24.1.2 ∧ u_24.1.2 ≤ u_24.1.1 ∧ (u_24.2.1 = 0 ∨ u_24.1.2 < u_24.1.1)))) ∧ (u_21.1 = 0 → ∀ pl : Int32, hSyU (0, pl) (htok tf mo_tl u_7.1.1.1) u_24) ∧ (¬ u_21.1 = 0 → u_24 = ((u_7.1.1.1, u_7.1.1.2), u_7.1.2.1, u_7.1.2.2.1, u_21.1, u_21.2)) := hw_23
          exact hs_vret hx hb hr hlocks hK hP hD hS ((((u_24.1.1, u_24.1.2), u_24.2.1, u_24.2.2.1, u_24.2.2.2.1, u_24.2.2.2.2), u_7.2.1, u_7.2.2.1, u_7.2.2.2.1, u_7.2.2.2.2), jto) [0, 1, 2] rfl (hs_upnd rfl) dX8_readLine_173 (⟨⟨⟨by (try dsimp only); omega, by (try dsimp only); omega, by (try dsimp only); omega, fun h => by (try dsimp only at h); have a0 := hw_23.1.2.2.2 h; have a1 := hw_20.2.1 a0.1; have a2 := hw_6.1.1.2.2.2 a1; have a3 := hw_2.1.2.2.2 a2.1; exact ⟨hft0, by (try dsimp only); omega, by (try dsimp only); omega, by (try dsimp only); exact a0.2.2.2⟩⟩, hw_6.1.2.1, hw_6.1.2.2.1, hw_6.1.2.2.2.1, fun h => by (try dsimp only at h ⊢); have a0 := hw_23.1.2.2.2 h; have a1 := hw_20.2.1 a0.1; have a2 := hw_6.1.1.2.2.2 a1; have a3 := hw_2.1.2.2.2 a2.1; omega⟩, (by have hj0 := (hI127.2.1 (hw_2.1.2.2.2 (by omega)).1); have hof := hw_6.2.1; rw [hj0.2.2.2.2.1] at hof; exact rl_m3 (f := tf) (len := mo_tl) (ln := cLn tf mo_sort mo_fr mo_ps) (x := ((0, pl, nI ta), (mo_sort, mo_fr, mo_ps, va), d_N, d_J, d_F)) hj0.1 hof nc_8 c_12 (hw_23.2.1 hzhw_20)), fun h => (by have hj0 := (hI127.2.1 (hw_2.1.2.2.2 (by omega)).1); have hr9 := hw_6.2.2 nc_8; rw [hj0.2.2.2.2.1] at hr9; obtain ⟨tb, htb, e1, e2⟩ := hj0.2.2.2.2.2; have hd9 := rl_dr (f := tf) (len := mo_tl) (ln := cLn tf mo_sort mo_fr mo_ps) (x := ((0, pl, nI ta), (mo_sort, mo_fr, mo_ps, va), d_N, d_J, d_F)) hj0.1; exact ⟨by rw [hd9.1]; exact hr9, tb, htb, hd9.2.trans e1, e2⟩)⟩)
    · have nc_4 : ¬ (u_3.2.2.2.1) ≤ 0 := fun hq9 => c_4 ((nI_leI (a := (u_3.2.2.2.1)) (b := 0) (by omega) (by omega)).mpr hq9)
      exact hs_vret hx hb hr hlocks hK hP hD hS ((((u_3.1.1, u_3.1.2), u_3.2.1, u_3.2.2.1, u_3.2.2.2.1, u_3.2.2.2.2), df, mo_highest, mo_dp, mo_dh), jto) [0, 1, 2] rfl (hs_upnd rfl) dX8_readLine_138 (⟨⟨⟨by (try dsimp only); omega, by (try dsimp only); omega, by (try dsimp only); omega, fun h => by (try dsimp only at h); exfalso; omega⟩, hdr, by (try dsimp only); omega, by (try dsimp only); omega, fun h => by (try dsimp only at h ⊢); omega⟩, (if hj : jfa = 0 then rl_ft (f := tf) (len := mo_tl) (ln := cLn tf mo_sort mo_fr mo_ps) (x := ((0, pl, nI ta), (mo_sort, mo_fr, mo_ps, va), d_N, d_J, d_F)) (hI127.2.1 hj).1 (hSyU_b (b := ((cCN 0 pl (nI ta) mo_sort mo_fr (d_N 1) (d_N 3) (cLn tf mo_sort mo_fr mo_ps)).1, (cCN 0 pl (nI ta) mo_sort mo_fr (d_N 1) (d_N 3) (cLn tf mo_sort mo_fr mo_ps)).2.1)) (t := htok tf mo_tl mo_ps) (hI127.2.1 hj).1 (hw_2.2.1 hj)) (by (try dsimp only); omega) else (by have e9 := hw_2.2.2 hj; (try dsimp only); rw [e9]; exact rl_no (f := tf) (len := mo_tl) (ln := cLn tf mo_sort mo_fr mo_ps) (x := ((0, pl, nI ta), (mo_sort, mo_fr, mo_ps, va), d_N, d_J, d_F)) (hI127.2.2 hj).1 hj (hI127.2.2 hj).2)), fun h => by (try dsimp only at h); exfalso; omega⟩)
  · refine lv_aload_n hx hb dX8_readLine_0 rfl (lv_at hl 0 rfl) ?_
    refine va_get (D := D) (ci := 7) (v := .int mo_sort) (C := RX8) (T := TX8) (N := 32) hx hb hts hiX8 hown hK hP 0 rfl rfl 14 (Nat.le_of_ble_eq_true rfl) fl101 (fun _ h9 => h9) rfl dX8_readLine_1 ?_
    refine lv_iconst (v := 1) hx hb dX8_readLine_4 hki_1 ?_
    refine lv_icmp_ne (tgt := 15) hx hb dX8_readLine_5 rfl (fun c_25 => ?_) (fun c_25 => ?_)
    · refine lv_bipush (v := (-4)) hx hb dX8_readLine_15 hkb_m4 ?_
      refine lv_istore_n (lv' := [(1, .int (-4)), (0, .ref mo)]) hx hb dX8_readLine_17 rfl hl (Nat.le_of_ble_eq_true rfl) rfl (fun ls hl => ?_)
      have hLN : cLn tf mo_sort mo_fr mo_ps = -4 := cLn_no c_25
      refine lv_aload_n hx hb dX8_readLine_18 rfl (lv_at hl 1 rfl) ?_
      refine lv_iload_n hx hb dX8_readLine_19 rfl (lv_at hl 0 rfl) ?_
      refine lv_bipush (v := (-4)) hx hb dX8_readLine_20 hkb_m4 ?_
      refine lv_icmp_eq (tgt := 29) hx hb dX8_readLine_22 rfl (fun c_26 => ?_) (fun c_26 => absurd c_26 (by decide))
      refine lv_iconst (v := 0) hx hb dX8_readLine_29 hki_0 ?_
      refine lv_iconst (v := 2) hx hb dX8_readLine_30 hki_2 ?_
      refine hs_cvM (va_runV (As := [.int 0, .int 2]) (rest := []) ⟨hx, hb, hml, hown, hts⟩ (gr_needs l D k _ mo mo_st mo_at mo_isKept mo_pe mo_hm mo_draft mo_dp mo_dh mo_toldLines mo_highest mo_tape mo_tl mo_ps mo_fr mo_sort mo_value mo_ft mo_wrongAt mo_row mo_orderMany mo_fo mo_lightest mo_heaviest mo_before mo_justSum mo_toldSum mo_allWays mo_lanes mo_sizes mo_cells mo_torn mo_had 0 2 (by omega) (by omega)) (cwV 2 hts gX8_readLine_X8_needs rfl rfl rfl ⟨rfl, hq_X8_needs⟩ ⟨Nat.le_of_ble_eq_true rfl, Nat.le_of_ble_eq_true rfl⟩) (hs_preV hK hN (hs_subP (w := [_]) hP [0] rfl) (hD.sub (ws' := [_]) [0] (hs_upnd rfl) rfl) (ci := 7) (q0 := 0) rfl rfl) rfl rfl hl.1 rfl (lv_room (Nat.le_of_ble_eq_true rfl)) dX8_readLine_31 ⟨Nat.le_of_ble_eq_true rfl, Nat.le_of_ble_eq_true rfl⟩) hP hD hS hA [false, true, true] [_, _] [_] rfl [0] rfl [0] (fun u_29 => [_]) (fun _ => rfl) (hs_upnd rfl) [false, true, true] (fun u_29 => [_, _, _]) (fun _ => rfl) (fun u_29 H locs hw_28 hP hD hS => ?_)
      have hw_28 : u_29.1 ≤ 7 ∧ (u_29.1 = 0 → mo_ft = 0) ∧ ((0 : Int32) = 0 → ¬ u_29.1 = 0) ∧ u_29 = hNd mo_ft mo_wrongAt mo_fr 0 2 := hw_28
      have hzhw_28 := hw_28.2.2.1 rfl
      refine lv_aload_n hx hb dX8_readLine_34 rfl (lv_at hl 1 rfl) ?_
      refine lv_iload_n hx hb dX8_readLine_35 rfl (lv_at hl 0 rfl) ?_
      refine lv_iconst (v := 4) hx hb dX8_readLine_36 hki_4 ?_
      refine lv_icmp_ne (tgt := 60) hx hb dX8_readLine_37 rfl (fun c_30 => ?_) (fun c_30 => absurd c_30 (by decide))
      refine lv_iload_n hx hb dX8_readLine_60 rfl (lv_at hl 0 rfl) ?_
      refine lv_iconst (v := 4) hx hb dX8_readLine_61 hki_4 ?_
      refine lv_icmp_gt (tgt := 73) hx hb dX8_readLine_62 rfl (fun c_31 => absurd c_31 (by decide)) (fun c_31 => ?_)
      refine lv_aload_n hx hb dX8_readLine_65 rfl (lv_at hl 1 rfl) ?_
      refine va_get (D := D) (ci := 7) (v := .int (nI mo_dp)) (C := RX8) (T := TX8) (N := 32) hx hb hts hiX8 hown hK hP 0 rfl rfl 6 (Nat.le_of_ble_eq_true rfl) fl50 (fun _ h9 => h9) rfl dX8_readLine_66 ?_
      refine lv_iconst (v := 4) hx hb dX8_readLine_69 hki_4 ?_
      refine lv_icmp_ge (tgt := 77) hx hb dX8_readLine_70 rfl (fun c_32 => ?_) (fun c_32 => ?_)
      · have nc_32 : 4 ≤ mo_dp := (nI_leI (a := 4) (b := mo_dp) (by omega) (by omega)).mp c_32
        refine lv_iconst (v := 0) hx hb dX8_readLine_77 hki_0 ?_
        refine lv_iconst (v := 5) hx hb dX8_readLine_78 hki_5 ?_
        refine hs_cvM (va_runV (As := [.int 0, .int 5]) (rest := []) ⟨hx, hb, hml, hown, hts⟩ (gr_needs l D k _ mo mo_st mo_at mo_isKept mo_pe mo_hm mo_draft mo_dp mo_dh mo_toldLines mo_highest mo_tape mo_tl mo_ps mo_fr mo_sort mo_value u_29.1 u_29.2 mo_row mo_orderMany mo_fo mo_lightest mo_heaviest mo_before mo_justSum mo_toldSum mo_allWays mo_lanes mo_sizes mo_cells mo_torn mo_had 0 5 (by omega) (by omega)) (cwV 2 hts gX8_readLine_X8_needs rfl rfl rfl ⟨rfl, hq_X8_needs⟩ ⟨Nat.le_of_ble_eq_true rfl, Nat.le_of_ble_eq_true rfl⟩) (hs_preV hK hN (hs_subP (w := [_]) hP [0] rfl) (hD.sub (ws' := [_]) [0] (hs_upnd rfl) rfl) (ci := 7) (q0 := 0) rfl rfl) rfl rfl hl.1 rfl (lv_room (Nat.le_of_ble_eq_true rfl)) dX8_readLine_79 ⟨Nat.le_of_ble_eq_true rfl, Nat.le_of_ble_eq_true rfl⟩) hP hD hS hA [false, true, true] [_, _] [_] rfl [0] rfl [0] (fun u_35 => [_]) (fun _ => rfl) (hs_upnd rfl) [false, true, true] (fun u_35 => [_, _, _]) (fun _ => rfl) (fun u_35 H locs hw_34 hP hD hS => ?_)
        have hw_34 : u_35.1 ≤ 7 ∧ (u_35.1 = 0 → u_29.1 = 0) ∧ ((0 : Int32) = 0 → ¬ u_35.1 = 0) ∧ u_35 = hNd u_29.1 u_29.2 mo_fr 0 5 := hw_34
        have hzhw_34 := hw_34.2.2.1 rfl
        refine lv_aload_n hx hb dX8_readLine_82 rfl (lv_at hl 1 rfl) ?_
        refine va_get (D := D) (ci := 7) (v := .int (nI (u_35.1))) (C := RX8) (T := TX8) (N := 32) hx hb hts hiX8 hown hK hP 0 rfl rfl 16 (Nat.le_of_ble_eq_true rfl) fl78 (fun _ h9 => h9) rfl dX8_readLine_83 ?_
        refine lv_if_ne (tgt := 127) hx hb dX8_readLine_86 rfl (fun c_36 => ?_) (fun c_36 => absurd ((nI_eq (a := (u_35.1)) (b := 0) (by omega) (by omega)).mp c_36) hzhw_34)
        exact kj127_0 ((-4), mo_toldLines, u_35.1, u_35.2) (by (try dsimp only); exact ⟨by omega, fun h => absurd h hzhw_34, fun _ => by rw [hLN]; exact ⟨(ck_none hA2).1, (by rw [hw_34.2.2.2, hNd, if_neg (fun z9 => hzhw_28 z9.2), hw_28.2.2.2, hNd, if_pos ⟨rfl, hft0⟩]; exact (ck_none hA2).2)⟩⟩) _ _ _ hP hD hS (lv_sub hl [0, 1] rfl)
      · have nc_32 : ¬ 4 ≤ mo_dp := fun hq9 => c_32 ((nI_leI (a := 4) (b := mo_dp) (by omega) (by omega)).mpr hq9)
        refine lv_iconst (v := 1) hx hb dX8_readLine_73 hki_1 ?_
        refine lv_goto (tgt := 78) hx hb dX8_readLine_74 rfl ?_
        refine lv_iconst (v := 5) hx hb dX8_readLine_78 hki_5 ?_
        refine hs_cvM (va_runV (As := [.int 1, .int 5]) (rest := []) ⟨hx, hb, hml, hown, hts⟩ (gr_needs l D k _ mo mo_st mo_at mo_isKept mo_pe mo_hm mo_draft mo_dp mo_dh mo_toldLines mo_highest mo_tape mo_tl mo_ps mo_fr mo_sort mo_value u_29.1 u_29.2 mo_row mo_orderMany mo_fo mo_lightest mo_heaviest mo_before mo_justSum mo_toldSum mo_allWays mo_lanes mo_sizes mo_cells mo_torn mo_had 1 5 (by omega) (by omega)) (cwV 2 hts gX8_readLine_X8_needs rfl rfl rfl ⟨rfl, hq_X8_needs⟩ ⟨Nat.le_of_ble_eq_true rfl, Nat.le_of_ble_eq_true rfl⟩) (hs_preV hK hN (hs_subP (w := [_]) hP [0] rfl) (hD.sub (ws' := [_]) [0] (hs_upnd rfl) rfl) (ci := 7) (q0 := 0) rfl rfl) rfl rfl hl.1 rfl (lv_room (Nat.le_of_ble_eq_true rfl)) dX8_readLine_79 ⟨Nat.le_of_ble_eq_true rfl, Nat.le_of_ble_eq_true rfl⟩) hP hD hS hA [false, true, true] [_, _] [_] rfl [0] rfl [0] (fun u_39 => [_]) (fun _ => rfl) (hs_upnd rfl) [false, true, true] (fun u_39 => [_, _, _]) (fun _ => rfl) (fun u_39 H locs hw_38 hP hD hS => ?_)
        have hw_38 : u_39.1 ≤ 7 ∧ (u_39.1 = 0 → u_29.1 = 0) ∧ ((1 : Int32) = 0 → ¬ u_39.1 = 0) ∧ u_39 = hNd u_29.1 u_29.2 mo_fr 1 5 := hw_38
        have hqhw_38 : u_39.1 = u_29.1 := by rw [hw_38.2.2.2, hNd, if_neg (fun z9 => absurd z9.1 (by decide))]
        have hzhw_38 : ¬ u_39.1 = 0 := fun h9 => hzhw_28 (hqhw_38.symm.trans h9)
        refine lv_aload_n hx hb dX8_readLine_82 rfl (lv_at hl 1 rfl) ?_
        refine va_get (D := D) (ci := 7) (v := .int (nI (u_39.1))) (C := RX8) (T := TX8) (N := 32) hx hb hts hiX8 hown hK hP 0 rfl rfl 16 (Nat.le_of_ble_eq_true rfl) fl78 (fun _ h9 => h9) rfl dX8_readLine_83 ?_
        refine lv_if_ne (tgt := 127) hx hb dX8_readLine_86 rfl (fun c_40 => ?_) (fun c_40 => absurd ((nI_eq (a := (u_39.1)) (b := 0) (by omega) (by omega)).mp c_40) hzhw_38)
        exact kj127_0 ((-4), mo_toldLines, u_39.1, u_39.2) (by (try dsimp only); exact ⟨by omega, fun h => absurd h hzhw_38, fun _ => by rw [hLN]; exact ⟨(ck_none hA2).1, (by rw [hw_38.2.2.2, hNd, if_neg (fun z9 => hzhw_28 z9.2), hw_28.2.2.2, hNd, if_pos ⟨rfl, hft0⟩]; exact (ck_none hA2).2)⟩⟩) _ _ _ hP hD hS (lv_sub hl [0, 1] rfl)
    · refine lv_aload_n hx hb dX8_readLine_8 rfl (lv_at hl 0 rfl) ?_
      refine hs_ciM (va_runV (As := []) (rest := []) ⟨hx, hb, hml, hown, hts⟩ (gr_lineNow l D k _ mo mo_st mo_at mo_isKept mo_pe mo_hm mo_draft mo_dp mo_dh mo_toldLines mo_highest mo_tape mo_tl mo_ps mo_fr mo_sort mo_value mo_ft mo_wrongAt mo_row mo_orderMany mo_fo mo_lightest mo_heaviest mo_before mo_justSum mo_toldSum mo_allWays mo_lanes mo_sizes mo_cells mo_torn mo_had tf (by omega) (by omega) (by omega)) (cwV 0 hts gX8_readLine_X8_lineNow rfl rfl rfl ⟨rfl, hq_X8_lineNow⟩ ⟨Nat.le_of_ble_eq_true rfl, Nat.le_of_ble_eq_true rfl⟩) (hs_preV hK hN (hs_subP (w := [_, _]) hP [0, 1] rfl) (hD.sub (ws' := [_, _]) [0, 1] (hs_upnd rfl) rfl) (ci := 7) (q0 := 0) rfl rfl) rfl rfl hl.1 rfl (lv_room (Nat.le_of_ble_eq_true rfl)) dX8_readLine_9 ⟨Nat.le_of_ble_eq_true rfl, Nat.le_of_ble_eq_true rfl⟩) hP hD hS hA [false, false, true] [_] [_, _] rfl [0, 1] rfl [0, 1] (fun u_43 => [_, _]) (fun _ => rfl) (hs_upnd rfl) [false, false, true] (fun u_43 => [_, _, _]) (fun _ => rfl) (fun r_41 u_43 H locs hw_42 hP hD hS => ?_)
      refine lv_goto (tgt := 17) hx hb dX8_readLine_12 rfl ?_
      rcases ln10 hw_42 with ⟨rfl, hno⟩ | ⟨rfl, hyw⟩ | ⟨rfl, hyw⟩ | ⟨rfl, hyw⟩ | ⟨rfl, hyw⟩ | ⟨rfl, hyw⟩ | ⟨rfl, hyw⟩ | ⟨rfl, hyw⟩ | ⟨rfl, hyw⟩ | ⟨rfl, hyw⟩
      · refine lv_istore_n (lv' := [(1, .int (-4)), (0, .ref mo)]) hx hb dX8_readLine_17 rfl hl (Nat.le_of_ble_eq_true rfl) rfl (fun ls hl => ?_)
        have hLN : cLn tf mo_sort mo_fr mo_ps = -4 := cLn_none hno
        refine lv_aload_n hx hb dX8_readLine_18 rfl (lv_at hl 1 rfl) ?_
        refine lv_iload_n hx hb dX8_readLine_19 rfl (lv_at hl 0 rfl) ?_
        refine lv_bipush (v := (-4)) hx hb dX8_readLine_20 hkb_m4 ?_
        refine lv_icmp_eq (tgt := 29) hx hb dX8_readLine_22 rfl (fun c_44 => ?_) (fun c_44 => absurd c_44 (by decide))
        refine lv_iconst (v := 0) hx hb dX8_readLine_29 hki_0 ?_
        refine lv_iconst (v := 2) hx hb dX8_readLine_30 hki_2 ?_
        refine hs_cvM (va_runV (As := [.int 0, .int 2]) (rest := []) ⟨hx, hb, hml, hown, hts⟩ (gr_needs l D k _ mo mo_st mo_at mo_isKept mo_pe mo_hm mo_draft mo_dp mo_dh mo_toldLines mo_highest mo_tape mo_tl mo_ps mo_fr mo_sort mo_value mo_ft mo_wrongAt mo_row mo_orderMany mo_fo mo_lightest mo_heaviest mo_before mo_justSum mo_toldSum mo_allWays mo_lanes mo_sizes mo_cells mo_torn mo_had 0 2 (by omega) (by omega)) (cwV 2 hts gX8_readLine_X8_needs rfl rfl rfl ⟨rfl, hq_X8_needs⟩ ⟨Nat.le_of_ble_eq_true rfl, Nat.le_of_ble_eq_true rfl⟩) (hs_preV hK hN (hs_subP (w := [_]) hP [0] rfl) (hD.sub (ws' := [_]) [0] (hs_upnd rfl) rfl) (ci := 7) (q0 := 0) rfl rfl) rfl rfl hl.1 rfl (lv_room (Nat.le_of_ble_eq_true rfl)) dX8_readLine_31 ⟨Nat.le_of_ble_eq_true rfl, Nat.le_of_ble_eq_true rfl⟩) hP hD hS hA [false, true, true] [_, _] [_] rfl [0] rfl [0] (fun u_47 => [_]) (fun _ => rfl) (hs_upnd rfl) [false, true, true] (fun u_47 => [_, _, _]) (fun _ => rfl) (fun u_47 H locs hw_46 hP hD hS => ?_)
        have hw_46 : u_47.1 ≤ 7 ∧ (u_47.1 = 0 → mo_ft = 0) ∧ ((0 : Int32) = 0 → ¬ u_47.1 = 0) ∧ u_47 = hNd mo_ft mo_wrongAt mo_fr 0 2 := hw_46
        have hzhw_46 := hw_46.2.2.1 rfl
        refine lv_aload_n hx hb dX8_readLine_34 rfl (lv_at hl 1 rfl) ?_
        refine lv_iload_n hx hb dX8_readLine_35 rfl (lv_at hl 0 rfl) ?_
        refine lv_iconst (v := 4) hx hb dX8_readLine_36 hki_4 ?_
        refine lv_icmp_ne (tgt := 60) hx hb dX8_readLine_37 rfl (fun c_48 => ?_) (fun c_48 => absurd c_48 (by decide))
        refine lv_iload_n hx hb dX8_readLine_60 rfl (lv_at hl 0 rfl) ?_
        refine lv_iconst (v := 4) hx hb dX8_readLine_61 hki_4 ?_
        refine lv_icmp_gt (tgt := 73) hx hb dX8_readLine_62 rfl (fun c_49 => absurd c_49 (by decide)) (fun c_49 => ?_)
        refine lv_aload_n hx hb dX8_readLine_65 rfl (lv_at hl 1 rfl) ?_
        refine va_get (D := D) (ci := 7) (v := .int (nI mo_dp)) (C := RX8) (T := TX8) (N := 32) hx hb hts hiX8 hown hK hP 0 rfl rfl 6 (Nat.le_of_ble_eq_true rfl) fl50 (fun _ h9 => h9) rfl dX8_readLine_66 ?_
        refine lv_iconst (v := 4) hx hb dX8_readLine_69 hki_4 ?_
        refine lv_icmp_ge (tgt := 77) hx hb dX8_readLine_70 rfl (fun c_50 => ?_) (fun c_50 => ?_)
        · have nc_50 : 4 ≤ mo_dp := (nI_leI (a := 4) (b := mo_dp) (by omega) (by omega)).mp c_50
          refine lv_iconst (v := 0) hx hb dX8_readLine_77 hki_0 ?_
          refine lv_iconst (v := 5) hx hb dX8_readLine_78 hki_5 ?_
          refine hs_cvM (va_runV (As := [.int 0, .int 5]) (rest := []) ⟨hx, hb, hml, hown, hts⟩ (gr_needs l D k _ mo mo_st mo_at mo_isKept mo_pe mo_hm mo_draft mo_dp mo_dh mo_toldLines mo_highest mo_tape mo_tl mo_ps mo_fr mo_sort mo_value u_47.1 u_47.2 mo_row mo_orderMany mo_fo mo_lightest mo_heaviest mo_before mo_justSum mo_toldSum mo_allWays mo_lanes mo_sizes mo_cells mo_torn mo_had 0 5 (by omega) (by omega)) (cwV 2 hts gX8_readLine_X8_needs rfl rfl rfl ⟨rfl, hq_X8_needs⟩ ⟨Nat.le_of_ble_eq_true rfl, Nat.le_of_ble_eq_true rfl⟩) (hs_preV hK hN (hs_subP (w := [_]) hP [0] rfl) (hD.sub (ws' := [_]) [0] (hs_upnd rfl) rfl) (ci := 7) (q0 := 0) rfl rfl) rfl rfl hl.1 rfl (lv_room (Nat.le_of_ble_eq_true rfl)) dX8_readLine_79 ⟨Nat.le_of_ble_eq_true rfl, Nat.le_of_ble_eq_true rfl⟩) hP hD hS hA [false, true, true] [_, _] [_] rfl [0] rfl [0] (fun u_53 => [_]) (fun _ => rfl) (hs_upnd rfl) [false, true, true] (fun u_53 => [_, _, _]) (fun _ => rfl) (fun u_53 H locs hw_52 hP hD hS => ?_)
          have hw_52 : u_53.1 ≤ 7 ∧ (u_53.1 = 0 → u_47.1 = 0) ∧ ((0 : Int32) = 0 → ¬ u_53.1 = 0) ∧ u_53 = hNd u_47.1 u_47.2 mo_fr 0 5 := hw_52
          have hzhw_52 := hw_52.2.2.1 rfl
          refine lv_aload_n hx hb dX8_readLine_82 rfl (lv_at hl 1 rfl) ?_
          refine va_get (D := D) (ci := 7) (v := .int (nI (u_53.1))) (C := RX8) (T := TX8) (N := 32) hx hb hts hiX8 hown hK hP 0 rfl rfl 16 (Nat.le_of_ble_eq_true rfl) fl78 (fun _ h9 => h9) rfl dX8_readLine_83 ?_
          refine lv_if_ne (tgt := 127) hx hb dX8_readLine_86 rfl (fun c_54 => ?_) (fun c_54 => absurd ((nI_eq (a := (u_53.1)) (b := 0) (by omega) (by omega)).mp c_54) hzhw_52)
          exact kj127_0 ((-4), mo_toldLines, u_53.1, u_53.2) (by (try dsimp only); exact ⟨by omega, fun h => absurd h hzhw_52, fun _ => by rw [hLN]; exact ⟨(ck_none hA2).1, (by rw [hw_52.2.2.2, hNd, if_neg (fun z9 => hzhw_46 z9.2), hw_46.2.2.2, hNd, if_pos ⟨rfl, hft0⟩]; exact (ck_none hA2).2)⟩⟩) _ _ _ hP hD hS (lv_sub hl [0, 1] rfl)
        · have nc_50 : ¬ 4 ≤ mo_dp := fun hq9 => c_50 ((nI_leI (a := 4) (b := mo_dp) (by omega) (by omega)).mpr hq9)
          refine lv_iconst (v := 1) hx hb dX8_readLine_73 hki_1 ?_
          refine lv_goto (tgt := 78) hx hb dX8_readLine_74 rfl ?_
          refine lv_iconst (v := 5) hx hb dX8_readLine_78 hki_5 ?_
          refine hs_cvM (va_runV (As := [.int 1, .int 5]) (rest := []) ⟨hx, hb, hml, hown, hts⟩ (gr_needs l D k _ mo mo_st mo_at mo_isKept mo_pe mo_hm mo_draft mo_dp mo_dh mo_toldLines mo_highest mo_tape mo_tl mo_ps mo_fr mo_sort mo_value u_47.1 u_47.2 mo_row mo_orderMany mo_fo mo_lightest mo_heaviest mo_before mo_justSum mo_toldSum mo_allWays mo_lanes mo_sizes mo_cells mo_torn mo_had 1 5 (by omega) (by omega)) (cwV 2 hts gX8_readLine_X8_needs rfl rfl rfl ⟨rfl, hq_X8_needs⟩ ⟨Nat.le_of_ble_eq_true rfl, Nat.le_of_ble_eq_true rfl⟩) (hs_preV hK hN (hs_subP (w := [_]) hP [0] rfl) (hD.sub (ws' := [_]) [0] (hs_upnd rfl) rfl) (ci := 7) (q0 := 0) rfl rfl) rfl rfl hl.1 rfl (lv_room (Nat.le_of_ble_eq_true rfl)) dX8_readLine_79 ⟨Nat.le_of_ble_eq_true rfl, Nat.le_of_ble_eq_true rfl⟩) hP hD hS hA [false, true, true] [_, _] [_] rfl [0] rfl [0] (fun u_57 => [_]) (fun _ => rfl) (hs_upnd rfl) [false, true, true] (fun u_57 => [_, _, _]) (fun _ => rfl) (fun u_57 H locs hw_56 hP hD hS => ?_)
          have hw_56 : u_57.1 ≤ 7 ∧ (u_57.1 = 0 → u_47.1 = 0) ∧ ((1 : Int32) = 0 → ¬ u_57.1 = 0) ∧ u_57 = hNd u_47.1 u_47.2 mo_fr 1 5 := hw_56
          have hqhw_56 : u_57.1 = u_47.1 := by rw [hw_56.2.2.2, hNd, if_neg (fun z9 => absurd z9.1 (by decide))]
          have hzhw_56 : ¬ u_57.1 = 0 := fun h9 => hzhw_46 (hqhw_56.symm.trans h9)
          refine lv_aload_n hx hb dX8_readLine_82 rfl (lv_at hl 1 rfl) ?_
          refine va_get (D := D) (ci := 7) (v := .int (nI (u_57.1))) (C := RX8) (T := TX8) (N := 32) hx hb hts hiX8 hown hK hP 0 rfl rfl 16 (Nat.le_of_ble_eq_true rfl) fl78 (fun _ h9 => h9) rfl dX8_readLine_83 ?_
          refine lv_if_ne (tgt := 127) hx hb dX8_readLine_86 rfl (fun c_58 => ?_) (fun c_58 => absurd ((nI_eq (a := (u_57.1)) (b := 0) (by omega) (by omega)).mp c_58) hzhw_56)
          exact kj127_0 ((-4), mo_toldLines, u_57.1, u_57.2) (by (try dsimp only); exact ⟨by omega, fun h => absurd h hzhw_56, fun _ => by rw [hLN]; exact ⟨(ck_none hA2).1, (by rw [hw_56.2.2.2, hNd, if_neg (fun z9 => hzhw_46 z9.2), hw_46.2.2.2, hNd, if_pos ⟨rfl, hft0⟩]; exact (ck_none hA2).2)⟩⟩) _ _ _ hP hD hS (lv_sub hl [0, 1] rfl)
      · refine lv_istore_n (lv' := [(1, .int 0), (0, .ref mo)]) hx hb dX8_readLine_17 rfl hl (Nat.le_of_ble_eq_true rfl) rfl (fun ls hl => ?_)
        have hLN : cLn tf mo_sort mo_fr mo_ps = 0 := cLn_uq c_25 (by decide) hyw
        refine lv_aload_n hx hb dX8_readLine_18 rfl (lv_at hl 1 rfl) ?_
        refine lv_iload_n hx hb dX8_readLine_19 rfl (lv_at hl 0 rfl) ?_
        refine lv_bipush (v := (-4)) hx hb dX8_readLine_20 hkb_m4 ?_
        refine lv_icmp_eq (tgt := 29) hx hb dX8_readLine_22 rfl (fun c_59 => absurd c_59 (by decide)) (fun c_59 => ?_)
        refine lv_iconst (v := 1) hx hb dX8_readLine_25 hki_1 ?_
        refine lv_goto (tgt := 30) hx hb dX8_readLine_26 rfl ?_
        refine lv_iconst (v := 2) hx hb dX8_readLine_30 hki_2 ?_
        refine hs_cvM (va_runV (As := [.int 1, .int 2]) (rest := []) ⟨hx, hb, hml, hown, hts⟩ (gr_needs l D k _ mo mo_st mo_at mo_isKept mo_pe mo_hm mo_draft mo_dp mo_dh mo_toldLines mo_highest mo_tape mo_tl mo_ps mo_fr mo_sort mo_value mo_ft mo_wrongAt mo_row mo_orderMany mo_fo mo_lightest mo_heaviest mo_before mo_justSum mo_toldSum mo_allWays mo_lanes mo_sizes mo_cells mo_torn mo_had 1 2 (by omega) (by omega)) (cwV 2 hts gX8_readLine_X8_needs rfl rfl rfl ⟨rfl, hq_X8_needs⟩ ⟨Nat.le_of_ble_eq_true rfl, Nat.le_of_ble_eq_true rfl⟩) (hs_preV hK hN (hs_subP (w := [_]) hP [0] rfl) (hD.sub (ws' := [_]) [0] (hs_upnd rfl) rfl) (ci := 7) (q0 := 0) rfl rfl) rfl rfl hl.1 rfl (lv_room (Nat.le_of_ble_eq_true rfl)) dX8_readLine_31 ⟨Nat.le_of_ble_eq_true rfl, Nat.le_of_ble_eq_true rfl⟩) hP hD hS hA [false, true, true] [_, _] [_] rfl [0] rfl [0] (fun u_62 => [_]) (fun _ => rfl) (hs_upnd rfl) [false, true, true] (fun u_62 => [_, _, _]) (fun _ => rfl) (fun u_62 H locs hw_61 hP hD hS => ?_)
        have hw_61 : u_62.1 ≤ 7 ∧ (u_62.1 = 0 → mo_ft = 0) ∧ ((1 : Int32) = 0 → ¬ u_62.1 = 0) ∧ u_62 = hNd mo_ft mo_wrongAt mo_fr 1 2 := hw_61
        have hqhw_61 : u_62.1 = mo_ft := by rw [hw_61.2.2.2, hNd, if_neg (fun z9 => absurd z9.1 (by decide))]
        have hzhw_61 : u_62.1 = 0 := hqhw_61.trans hft0
        refine lv_aload_n hx hb dX8_readLine_34 rfl (lv_at hl 1 rfl) ?_
        refine lv_iload_n hx hb dX8_readLine_35 rfl (lv_at hl 0 rfl) ?_
        refine lv_iconst (v := 4) hx hb dX8_readLine_36 hki_4 ?_
        refine lv_icmp_ne (tgt := 60) hx hb dX8_readLine_37 rfl (fun c_63 => ?_) (fun c_63 => absurd c_63 (by decide))
        refine lv_iload_n hx hb dX8_readLine_60 rfl (lv_at hl 0 rfl) ?_
        refine lv_iconst (v := 4) hx hb dX8_readLine_61 hki_4 ?_
        refine lv_icmp_gt (tgt := 73) hx hb dX8_readLine_62 rfl (fun c_64 => absurd c_64 (by decide)) (fun c_64 => ?_)
        refine lv_aload_n hx hb dX8_readLine_65 rfl (lv_at hl 1 rfl) ?_
        refine va_get (D := D) (ci := 7) (v := .int (nI mo_dp)) (C := RX8) (T := TX8) (N := 32) hx hb hts hiX8 hown hK hP 0 rfl rfl 6 (Nat.le_of_ble_eq_true rfl) fl50 (fun _ h9 => h9) rfl dX8_readLine_66 ?_
        refine lv_iconst (v := 4) hx hb dX8_readLine_69 hki_4 ?_
        refine lv_icmp_ge (tgt := 77) hx hb dX8_readLine_70 rfl (fun c_65 => ?_) (fun c_65 => ?_)
        · have nc_65 : 4 ≤ mo_dp := (nI_leI (a := 4) (b := mo_dp) (by omega) (by omega)).mp c_65
          refine lv_iconst (v := 0) hx hb dX8_readLine_77 hki_0 ?_
          refine lv_iconst (v := 5) hx hb dX8_readLine_78 hki_5 ?_
          refine hs_cvM (va_runV (As := [.int 0, .int 5]) (rest := []) ⟨hx, hb, hml, hown, hts⟩ (gr_needs l D k _ mo mo_st mo_at mo_isKept mo_pe mo_hm mo_draft mo_dp mo_dh mo_toldLines mo_highest mo_tape mo_tl mo_ps mo_fr mo_sort mo_value u_62.1 u_62.2 mo_row mo_orderMany mo_fo mo_lightest mo_heaviest mo_before mo_justSum mo_toldSum mo_allWays mo_lanes mo_sizes mo_cells mo_torn mo_had 0 5 (by omega) (by omega)) (cwV 2 hts gX8_readLine_X8_needs rfl rfl rfl ⟨rfl, hq_X8_needs⟩ ⟨Nat.le_of_ble_eq_true rfl, Nat.le_of_ble_eq_true rfl⟩) (hs_preV hK hN (hs_subP (w := [_]) hP [0] rfl) (hD.sub (ws' := [_]) [0] (hs_upnd rfl) rfl) (ci := 7) (q0 := 0) rfl rfl) rfl rfl hl.1 rfl (lv_room (Nat.le_of_ble_eq_true rfl)) dX8_readLine_79 ⟨Nat.le_of_ble_eq_true rfl, Nat.le_of_ble_eq_true rfl⟩) hP hD hS hA [false, true, true] [_, _] [_] rfl [0] rfl [0] (fun u_68 => [_]) (fun _ => rfl) (hs_upnd rfl) [false, true, true] (fun u_68 => [_, _, _]) (fun _ => rfl) (fun u_68 H locs hw_67 hP hD hS => ?_)
          have hw_67 : u_68.1 ≤ 7 ∧ (u_68.1 = 0 → u_62.1 = 0) ∧ ((0 : Int32) = 0 → ¬ u_68.1 = 0) ∧ u_68 = hNd u_62.1 u_62.2 mo_fr 0 5 := hw_67
          have hzhw_67 := hw_67.2.2.1 rfl
          refine lv_aload_n hx hb dX8_readLine_82 rfl (lv_at hl 1 rfl) ?_
          refine va_get (D := D) (ci := 7) (v := .int (nI (u_68.1))) (C := RX8) (T := TX8) (N := 32) hx hb hts hiX8 hown hK hP 0 rfl rfl 16 (Nat.le_of_ble_eq_true rfl) fl78 (fun _ h9 => h9) rfl dX8_readLine_83 ?_
          refine lv_if_ne (tgt := 127) hx hb dX8_readLine_86 rfl (fun c_69 => ?_) (fun c_69 => absurd ((nI_eq (a := (u_68.1)) (b := 0) (by omega) (by omega)).mp c_69) hzhw_67)
          exact kj127_0 (0, mo_toldLines, u_68.1, u_68.2) (by (try dsimp only); exact ⟨by omega, fun h => absurd h hzhw_67, fun _ => by rw [hLN, ck_pn (by decide) (by omega)]; exact ⟨(show ¬ (5 : Int32) = 0 from by decide), (by rw [hw_67.2.2.2, hNd, if_pos ⟨rfl, hzhw_61⟩])⟩⟩) _ _ _ hP hD hS (lv_sub hl [0, 1] rfl)
        · have nc_65 : ¬ 4 ≤ mo_dp := fun hq9 => c_65 ((nI_leI (a := 4) (b := mo_dp) (by omega) (by omega)).mpr hq9)
          refine lv_iconst (v := 1) hx hb dX8_readLine_73 hki_1 ?_
          refine lv_goto (tgt := 78) hx hb dX8_readLine_74 rfl ?_
          refine lv_iconst (v := 5) hx hb dX8_readLine_78 hki_5 ?_
          refine hs_cvM (va_runV (As := [.int 1, .int 5]) (rest := []) ⟨hx, hb, hml, hown, hts⟩ (gr_needs l D k _ mo mo_st mo_at mo_isKept mo_pe mo_hm mo_draft mo_dp mo_dh mo_toldLines mo_highest mo_tape mo_tl mo_ps mo_fr mo_sort mo_value u_62.1 u_62.2 mo_row mo_orderMany mo_fo mo_lightest mo_heaviest mo_before mo_justSum mo_toldSum mo_allWays mo_lanes mo_sizes mo_cells mo_torn mo_had 1 5 (by omega) (by omega)) (cwV 2 hts gX8_readLine_X8_needs rfl rfl rfl ⟨rfl, hq_X8_needs⟩ ⟨Nat.le_of_ble_eq_true rfl, Nat.le_of_ble_eq_true rfl⟩) (hs_preV hK hN (hs_subP (w := [_]) hP [0] rfl) (hD.sub (ws' := [_]) [0] (hs_upnd rfl) rfl) (ci := 7) (q0 := 0) rfl rfl) rfl rfl hl.1 rfl (lv_room (Nat.le_of_ble_eq_true rfl)) dX8_readLine_79 ⟨Nat.le_of_ble_eq_true rfl, Nat.le_of_ble_eq_true rfl⟩) hP hD hS hA [false, true, true] [_, _] [_] rfl [0] rfl [0] (fun u_72 => [_]) (fun _ => rfl) (hs_upnd rfl) [false, true, true] (fun u_72 => [_, _, _]) (fun _ => rfl) (fun u_72 H locs hw_71 hP hD hS => ?_)
          have hw_71 : u_72.1 ≤ 7 ∧ (u_72.1 = 0 → u_62.1 = 0) ∧ ((1 : Int32) = 0 → ¬ u_72.1 = 0) ∧ u_72 = hNd u_62.1 u_62.2 mo_fr 1 5 := hw_71
          have hqhw_71 : u_72.1 = u_62.1 := by rw [hw_71.2.2.2, hNd, if_neg (fun z9 => absurd z9.1 (by decide))]
          have hzhw_71 : u_72.1 = 0 := hqhw_71.trans hzhw_61
          refine lv_aload_n hx hb dX8_readLine_82 rfl (lv_at hl 1 rfl) ?_
          refine va_get (D := D) (ci := 7) (v := .int (nI (u_72.1))) (C := RX8) (T := TX8) (N := 32) hx hb hts hiX8 hown hK hP 0 rfl rfl 16 (Nat.le_of_ble_eq_true rfl) fl78 (fun _ h9 => h9) rfl dX8_readLine_83 ?_
          refine lv_if_ne (tgt := 127) hx hb dX8_readLine_86 rfl (fun c_73 => absurd ((nI_eq (a := (u_72.1)) (b := 0) (by omega) (by omega)).mpr hzhw_71) c_73) (fun c_73 => ?_)
          refine lv_iload_n hx hb dX8_readLine_89 rfl (lv_at hl 0 rfl) ?_
          refine lv_iconst (v := 5) hx hb dX8_readLine_90 hki_5 ?_
          refine lv_icmp_lt (tgt := 127) hx hb dX8_readLine_91 rfl (fun c_74 => ?_) (fun c_74 => absurd c_74 (by decide))
          exact kj127_0 (0, mo_toldLines, u_72.1, u_72.2) (by (try dsimp only); exact ⟨by omega, fun _ => by rw [hLN, ck_py (by decide) (by omega)]; exact ⟨rfl, fun h9 => by first | omega | exact absurd h9 (by decide), fun h9 => by first | omega | exact absurd h9 (by decide), by decide, rfl, ⟨ta, hta, rfl, htl⟩⟩, fun h => absurd hzhw_71 h⟩) _ _ _ hP hD hS (lv_sub hl [0, 1] rfl)
      · refine lv_istore_n (lv' := [(1, .int 1), (0, .ref mo)]) hx hb dX8_readLine_17 rfl hl (Nat.le_of_ble_eq_true rfl) rfl (fun ls hl => ?_)
        have hLN : cLn tf mo_sort mo_fr mo_ps = 1 := cLn_uq c_25 (by decide) hyw
        refine lv_aload_n hx hb dX8_readLine_18 rfl (lv_at hl 1 rfl) ?_
        refine lv_iload_n hx hb dX8_readLine_19 rfl (lv_at hl 0 rfl) ?_
        refine lv_bipush (v := (-4)) hx hb dX8_readLine_20 hkb_m4 ?_
        refine lv_icmp_eq (tgt := 29) hx hb dX8_readLine_22 rfl (fun c_75 => absurd c_75 (by decide)) (fun c_75 => ?_)
        refine lv_iconst (v := 1) hx hb dX8_readLine_25 hki_1 ?_
        refine lv_goto (tgt := 30) hx hb dX8_readLine_26 rfl ?_
        refine lv_iconst (v := 2) hx hb dX8_readLine_30 hki_2 ?_
        refine hs_cvM (va_runV (As := [.int 1, .int 2]) (rest := []) ⟨hx, hb, hml, hown, hts⟩ (gr_needs l D k _ mo mo_st mo_at mo_isKept mo_pe mo_hm mo_draft mo_dp mo_dh mo_toldLines mo_highest mo_tape mo_tl mo_ps mo_fr mo_sort mo_value mo_ft mo_wrongAt mo_row mo_orderMany mo_fo mo_lightest mo_heaviest mo_before mo_justSum mo_toldSum mo_allWays mo_lanes mo_sizes mo_cells mo_torn mo_had 1 2 (by omega) (by omega)) (cwV 2 hts gX8_readLine_X8_needs rfl rfl rfl ⟨rfl, hq_X8_needs⟩ ⟨Nat.le_of_ble_eq_true rfl, Nat.le_of_ble_eq_true rfl⟩) (hs_preV hK hN (hs_subP (w := [_]) hP [0] rfl) (hD.sub (ws' := [_]) [0] (hs_upnd rfl) rfl) (ci := 7) (q0 := 0) rfl rfl) rfl rfl hl.1 rfl (lv_room (Nat.le_of_ble_eq_true rfl)) dX8_readLine_31 ⟨Nat.le_of_ble_eq_true rfl, Nat.le_of_ble_eq_true rfl⟩) hP hD hS hA [false, true, true] [_, _] [_] rfl [0] rfl [0] (fun u_78 => [_]) (fun _ => rfl) (hs_upnd rfl) [false, true, true] (fun u_78 => [_, _, _]) (fun _ => rfl) (fun u_78 H locs hw_77 hP hD hS => ?_)
        have hw_77 : u_78.1 ≤ 7 ∧ (u_78.1 = 0 → mo_ft = 0) ∧ ((1 : Int32) = 0 → ¬ u_78.1 = 0) ∧ u_78 = hNd mo_ft mo_wrongAt mo_fr 1 2 := hw_77
        have hqhw_77 : u_78.1 = mo_ft := by rw [hw_77.2.2.2, hNd, if_neg (fun z9 => absurd z9.1 (by decide))]
        have hzhw_77 : u_78.1 = 0 := hqhw_77.trans hft0
        refine lv_aload_n hx hb dX8_readLine_34 rfl (lv_at hl 1 rfl) ?_
        refine lv_iload_n hx hb dX8_readLine_35 rfl (lv_at hl 0 rfl) ?_
        refine lv_iconst (v := 4) hx hb dX8_readLine_36 hki_4 ?_
        refine lv_icmp_ne (tgt := 60) hx hb dX8_readLine_37 rfl (fun c_79 => ?_) (fun c_79 => absurd c_79 (by decide))
        refine lv_iload_n hx hb dX8_readLine_60 rfl (lv_at hl 0 rfl) ?_
        refine lv_iconst (v := 4) hx hb dX8_readLine_61 hki_4 ?_
        refine lv_icmp_gt (tgt := 73) hx hb dX8_readLine_62 rfl (fun c_80 => absurd c_80 (by decide)) (fun c_80 => ?_)
        refine lv_aload_n hx hb dX8_readLine_65 rfl (lv_at hl 1 rfl) ?_
        refine va_get (D := D) (ci := 7) (v := .int (nI mo_dp)) (C := RX8) (T := TX8) (N := 32) hx hb hts hiX8 hown hK hP 0 rfl rfl 6 (Nat.le_of_ble_eq_true rfl) fl50 (fun _ h9 => h9) rfl dX8_readLine_66 ?_
        refine lv_iconst (v := 4) hx hb dX8_readLine_69 hki_4 ?_
        refine lv_icmp_ge (tgt := 77) hx hb dX8_readLine_70 rfl (fun c_81 => ?_) (fun c_81 => ?_)
        · have nc_81 : 4 ≤ mo_dp := (nI_leI (a := 4) (b := mo_dp) (by omega) (by omega)).mp c_81
          refine lv_iconst (v := 0) hx hb dX8_readLine_77 hki_0 ?_
          refine lv_iconst (v := 5) hx hb dX8_readLine_78 hki_5 ?_
          refine hs_cvM (va_runV (As := [.int 0, .int 5]) (rest := []) ⟨hx, hb, hml, hown, hts⟩ (gr_needs l D k _ mo mo_st mo_at mo_isKept mo_pe mo_hm mo_draft mo_dp mo_dh mo_toldLines mo_highest mo_tape mo_tl mo_ps mo_fr mo_sort mo_value u_78.1 u_78.2 mo_row mo_orderMany mo_fo mo_lightest mo_heaviest mo_before mo_justSum mo_toldSum mo_allWays mo_lanes mo_sizes mo_cells mo_torn mo_had 0 5 (by omega) (by omega)) (cwV 2 hts gX8_readLine_X8_needs rfl rfl rfl ⟨rfl, hq_X8_needs⟩ ⟨Nat.le_of_ble_eq_true rfl, Nat.le_of_ble_eq_true rfl⟩) (hs_preV hK hN (hs_subP (w := [_]) hP [0] rfl) (hD.sub (ws' := [_]) [0] (hs_upnd rfl) rfl) (ci := 7) (q0 := 0) rfl rfl) rfl rfl hl.1 rfl (lv_room (Nat.le_of_ble_eq_true rfl)) dX8_readLine_79 ⟨Nat.le_of_ble_eq_true rfl, Nat.le_of_ble_eq_true rfl⟩) hP hD hS hA [false, true, true] [_, _] [_] rfl [0] rfl [0] (fun u_84 => [_]) (fun _ => rfl) (hs_upnd rfl) [false, true, true] (fun u_84 => [_, _, _]) (fun _ => rfl) (fun u_84 H locs hw_83 hP hD hS => ?_)
          have hw_83 : u_84.1 ≤ 7 ∧ (u_84.1 = 0 → u_78.1 = 0) ∧ ((0 : Int32) = 0 → ¬ u_84.1 = 0) ∧ u_84 = hNd u_78.1 u_78.2 mo_fr 0 5 := hw_83
          have hzhw_83 := hw_83.2.2.1 rfl
          refine lv_aload_n hx hb dX8_readLine_82 rfl (lv_at hl 1 rfl) ?_
          refine va_get (D := D) (ci := 7) (v := .int (nI (u_84.1))) (C := RX8) (T := TX8) (N := 32) hx hb hts hiX8 hown hK hP 0 rfl rfl 16 (Nat.le_of_ble_eq_true rfl) fl78 (fun _ h9 => h9) rfl dX8_readLine_83 ?_
          refine lv_if_ne (tgt := 127) hx hb dX8_readLine_86 rfl (fun c_85 => ?_) (fun c_85 => absurd ((nI_eq (a := (u_84.1)) (b := 0) (by omega) (by omega)).mp c_85) hzhw_83)
          exact kj127_0 (1, mo_toldLines, u_84.1, u_84.2) (by (try dsimp only); exact ⟨by omega, fun h => absurd h hzhw_83, fun _ => by rw [hLN, ck_pn (by decide) (by omega)]; exact ⟨(show ¬ (5 : Int32) = 0 from by decide), (by rw [hw_83.2.2.2, hNd, if_pos ⟨rfl, hzhw_77⟩])⟩⟩) _ _ _ hP hD hS (lv_sub hl [0, 1] rfl)
        · have nc_81 : ¬ 4 ≤ mo_dp := fun hq9 => c_81 ((nI_leI (a := 4) (b := mo_dp) (by omega) (by omega)).mpr hq9)
          refine lv_iconst (v := 1) hx hb dX8_readLine_73 hki_1 ?_
          refine lv_goto (tgt := 78) hx hb dX8_readLine_74 rfl ?_
          refine lv_iconst (v := 5) hx hb dX8_readLine_78 hki_5 ?_
          refine hs_cvM (va_runV (As := [.int 1, .int 5]) (rest := []) ⟨hx, hb, hml, hown, hts⟩ (gr_needs l D k _ mo mo_st mo_at mo_isKept mo_pe mo_hm mo_draft mo_dp mo_dh mo_toldLines mo_highest mo_tape mo_tl mo_ps mo_fr mo_sort mo_value u_78.1 u_78.2 mo_row mo_orderMany mo_fo mo_lightest mo_heaviest mo_before mo_justSum mo_toldSum mo_allWays mo_lanes mo_sizes mo_cells mo_torn mo_had 1 5 (by omega) (by omega)) (cwV 2 hts gX8_readLine_X8_needs rfl rfl rfl ⟨rfl, hq_X8_needs⟩ ⟨Nat.le_of_ble_eq_true rfl, Nat.le_of_ble_eq_true rfl⟩) (hs_preV hK hN (hs_subP (w := [_]) hP [0] rfl) (hD.sub (ws' := [_]) [0] (hs_upnd rfl) rfl) (ci := 7) (q0 := 0) rfl rfl) rfl rfl hl.1 rfl (lv_room (Nat.le_of_ble_eq_true rfl)) dX8_readLine_79 ⟨Nat.le_of_ble_eq_true rfl, Nat.le_of_ble_eq_true rfl⟩) hP hD hS hA [false, true, true] [_, _] [_] rfl [0] rfl [0] (fun u_88 => [_]) (fun _ => rfl) (hs_upnd rfl) [false, true, true] (fun u_88 => [_, _, _]) (fun _ => rfl) (fun u_88 H locs hw_87 hP hD hS => ?_)
          have hw_87 : u_88.1 ≤ 7 ∧ (u_88.1 = 0 → u_78.1 = 0) ∧ ((1 : Int32) = 0 → ¬ u_88.1 = 0) ∧ u_88 = hNd u_78.1 u_78.2 mo_fr 1 5 := hw_87
          have hqhw_87 : u_88.1 = u_78.1 := by rw [hw_87.2.2.2, hNd, if_neg (fun z9 => absurd z9.1 (by decide))]
          have hzhw_87 : u_88.1 = 0 := hqhw_87.trans hzhw_77
          refine lv_aload_n hx hb dX8_readLine_82 rfl (lv_at hl 1 rfl) ?_
          refine va_get (D := D) (ci := 7) (v := .int (nI (u_88.1))) (C := RX8) (T := TX8) (N := 32) hx hb hts hiX8 hown hK hP 0 rfl rfl 16 (Nat.le_of_ble_eq_true rfl) fl78 (fun _ h9 => h9) rfl dX8_readLine_83 ?_
          refine lv_if_ne (tgt := 127) hx hb dX8_readLine_86 rfl (fun c_89 => absurd ((nI_eq (a := (u_88.1)) (b := 0) (by omega) (by omega)).mpr hzhw_87) c_89) (fun c_89 => ?_)
          refine lv_iload_n hx hb dX8_readLine_89 rfl (lv_at hl 0 rfl) ?_
          refine lv_iconst (v := 5) hx hb dX8_readLine_90 hki_5 ?_
          refine lv_icmp_lt (tgt := 127) hx hb dX8_readLine_91 rfl (fun c_90 => ?_) (fun c_90 => absurd c_90 (by decide))
          exact kj127_0 (1, mo_toldLines, u_88.1, u_88.2) (by (try dsimp only); exact ⟨by omega, fun _ => by rw [hLN, ck_py (by decide) (by omega)]; exact ⟨rfl, fun h9 => by first | omega | exact absurd h9 (by decide), fun h9 => by first | omega | exact absurd h9 (by decide), by decide, rfl, ⟨ta, hta, rfl, htl⟩⟩, fun h => absurd hzhw_87 h⟩) _ _ _ hP hD hS (lv_sub hl [0, 1] rfl)
      · refine lv_istore_n (lv' := [(1, .int 2), (0, .ref mo)]) hx hb dX8_readLine_17 rfl hl (Nat.le_of_ble_eq_true rfl) rfl (fun ls hl => ?_)
        have hLN : cLn tf mo_sort mo_fr mo_ps = 2 := cLn_uq c_25 (by decide) hyw
        refine lv_aload_n hx hb dX8_readLine_18 rfl (lv_at hl 1 rfl) ?_
        refine lv_iload_n hx hb dX8_readLine_19 rfl (lv_at hl 0 rfl) ?_
        refine lv_bipush (v := (-4)) hx hb dX8_readLine_20 hkb_m4 ?_
        refine lv_icmp_eq (tgt := 29) hx hb dX8_readLine_22 rfl (fun c_91 => absurd c_91 (by decide)) (fun c_91 => ?_)
        refine lv_iconst (v := 1) hx hb dX8_readLine_25 hki_1 ?_
        refine lv_goto (tgt := 30) hx hb dX8_readLine_26 rfl ?_
        refine lv_iconst (v := 2) hx hb dX8_readLine_30 hki_2 ?_
        refine hs_cvM (va_runV (As := [.int 1, .int 2]) (rest := []) ⟨hx, hb, hml, hown, hts⟩ (gr_needs l D k _ mo mo_st mo_at mo_isKept mo_pe mo_hm mo_draft mo_dp mo_dh mo_toldLines mo_highest mo_tape mo_tl mo_ps mo_fr mo_sort mo_value mo_ft mo_wrongAt mo_row mo_orderMany mo_fo mo_lightest mo_heaviest mo_before mo_justSum mo_toldSum mo_allWays mo_lanes mo_sizes mo_cells mo_torn mo_had 1 2 (by omega) (by omega)) (cwV 2 hts gX8_readLine_X8_needs rfl rfl rfl ⟨rfl, hq_X8_needs⟩ ⟨Nat.le_of_ble_eq_true rfl, Nat.le_of_ble_eq_true rfl⟩) (hs_preV hK hN (hs_subP (w := [_]) hP [0] rfl) (hD.sub (ws' := [_]) [0] (hs_upnd rfl) rfl) (ci := 7) (q0 := 0) rfl rfl) rfl rfl hl.1 rfl (lv_room (Nat.le_of_ble_eq_true rfl)) dX8_readLine_31 ⟨Nat.le_of_ble_eq_true rfl, Nat.le_of_ble_eq_true rfl⟩) hP hD hS hA [false, true, true] [_, _] [_] rfl [0] rfl [0] (fun u_94 => [_]) (fun _ => rfl) (hs_upnd rfl) [false, true, true] (fun u_94 => [_, _, _]) (fun _ => rfl) (fun u_94 H locs hw_93 hP hD hS => ?_)
        have hw_93 : u_94.1 ≤ 7 ∧ (u_94.1 = 0 → mo_ft = 0) ∧ ((1 : Int32) = 0 → ¬ u_94.1 = 0) ∧ u_94 = hNd mo_ft mo_wrongAt mo_fr 1 2 := hw_93
        have hqhw_93 : u_94.1 = mo_ft := by rw [hw_93.2.2.2, hNd, if_neg (fun z9 => absurd z9.1 (by decide))]
        have hzhw_93 : u_94.1 = 0 := hqhw_93.trans hft0
        refine lv_aload_n hx hb dX8_readLine_34 rfl (lv_at hl 1 rfl) ?_
        refine lv_iload_n hx hb dX8_readLine_35 rfl (lv_at hl 0 rfl) ?_
        refine lv_iconst (v := 4) hx hb dX8_readLine_36 hki_4 ?_
        refine lv_icmp_ne (tgt := 60) hx hb dX8_readLine_37 rfl (fun c_95 => ?_) (fun c_95 => absurd c_95 (by decide))
        refine lv_iload_n hx hb dX8_readLine_60 rfl (lv_at hl 0 rfl) ?_
        refine lv_iconst (v := 4) hx hb dX8_readLine_61 hki_4 ?_
        refine lv_icmp_gt (tgt := 73) hx hb dX8_readLine_62 rfl (fun c_96 => absurd c_96 (by decide)) (fun c_96 => ?_)
        refine lv_aload_n hx hb dX8_readLine_65 rfl (lv_at hl 1 rfl) ?_
        refine va_get (D := D) (ci := 7) (v := .int (nI mo_dp)) (C := RX8) (T := TX8) (N := 32) hx hb hts hiX8 hown hK hP 0 rfl rfl 6 (Nat.le_of_ble_eq_true rfl) fl50 (fun _ h9 => h9) rfl dX8_readLine_66 ?_
        refine lv_iconst (v := 4) hx hb dX8_readLine_69 hki_4 ?_
        refine lv_icmp_ge (tgt := 77) hx hb dX8_readLine_70 rfl (fun c_97 => ?_) (fun c_97 => ?_)
        · have nc_97 : 4 ≤ mo_dp := (nI_leI (a := 4) (b := mo_dp) (by omega) (by omega)).mp c_97
          refine lv_iconst (v := 0) hx hb dX8_readLine_77 hki_0 ?_
          refine lv_iconst (v := 5) hx hb dX8_readLine_78 hki_5 ?_
          refine hs_cvM (va_runV (As := [.int 0, .int 5]) (rest := []) ⟨hx, hb, hml, hown, hts⟩ (gr_needs l D k _ mo mo_st mo_at mo_isKept mo_pe mo_hm mo_draft mo_dp mo_dh mo_toldLines mo_highest mo_tape mo_tl mo_ps mo_fr mo_sort mo_value u_94.1 u_94.2 mo_row mo_orderMany mo_fo mo_lightest mo_heaviest mo_before mo_justSum mo_toldSum mo_allWays mo_lanes mo_sizes mo_cells mo_torn mo_had 0 5 (by omega) (by omega)) (cwV 2 hts gX8_readLine_X8_needs rfl rfl rfl ⟨rfl, hq_X8_needs⟩ ⟨Nat.le_of_ble_eq_true rfl, Nat.le_of_ble_eq_true rfl⟩) (hs_preV hK hN (hs_subP (w := [_]) hP [0] rfl) (hD.sub (ws' := [_]) [0] (hs_upnd rfl) rfl) (ci := 7) (q0 := 0) rfl rfl) rfl rfl hl.1 rfl (lv_room (Nat.le_of_ble_eq_true rfl)) dX8_readLine_79 ⟨Nat.le_of_ble_eq_true rfl, Nat.le_of_ble_eq_true rfl⟩) hP hD hS hA [false, true, true] [_, _] [_] rfl [0] rfl [0] (fun u_100 => [_]) (fun _ => rfl) (hs_upnd rfl) [false, true, true] (fun u_100 => [_, _, _]) (fun _ => rfl) (fun u_100 H locs hw_99 hP hD hS => ?_)
          have hw_99 : u_100.1 ≤ 7 ∧ (u_100.1 = 0 → u_94.1 = 0) ∧ ((0 : Int32) = 0 → ¬ u_100.1 = 0) ∧ u_100 = hNd u_94.1 u_94.2 mo_fr 0 5 := hw_99
          have hzhw_99 := hw_99.2.2.1 rfl
          refine lv_aload_n hx hb dX8_readLine_82 rfl (lv_at hl 1 rfl) ?_
          refine va_get (D := D) (ci := 7) (v := .int (nI (u_100.1))) (C := RX8) (T := TX8) (N := 32) hx hb hts hiX8 hown hK hP 0 rfl rfl 16 (Nat.le_of_ble_eq_true rfl) fl78 (fun _ h9 => h9) rfl dX8_readLine_83 ?_
          refine lv_if_ne (tgt := 127) hx hb dX8_readLine_86 rfl (fun c_101 => ?_) (fun c_101 => absurd ((nI_eq (a := (u_100.1)) (b := 0) (by omega) (by omega)).mp c_101) hzhw_99)
          exact kj127_0 (2, mo_toldLines, u_100.1, u_100.2) (by (try dsimp only); exact ⟨by omega, fun h => absurd h hzhw_99, fun _ => by rw [hLN, ck_pn (by decide) (by omega)]; exact ⟨(show ¬ (5 : Int32) = 0 from by decide), (by rw [hw_99.2.2.2, hNd, if_pos ⟨rfl, hzhw_93⟩])⟩⟩) _ _ _ hP hD hS (lv_sub hl [0, 1] rfl)
        · have nc_97 : ¬ 4 ≤ mo_dp := fun hq9 => c_97 ((nI_leI (a := 4) (b := mo_dp) (by omega) (by omega)).mpr hq9)
          refine lv_iconst (v := 1) hx hb dX8_readLine_73 hki_1 ?_
          refine lv_goto (tgt := 78) hx hb dX8_readLine_74 rfl ?_
          refine lv_iconst (v := 5) hx hb dX8_readLine_78 hki_5 ?_
          refine hs_cvM (va_runV (As := [.int 1, .int 5]) (rest := []) ⟨hx, hb, hml, hown, hts⟩ (gr_needs l D k _ mo mo_st mo_at mo_isKept mo_pe mo_hm mo_draft mo_dp mo_dh mo_toldLines mo_highest mo_tape mo_tl mo_ps mo_fr mo_sort mo_value u_94.1 u_94.2 mo_row mo_orderMany mo_fo mo_lightest mo_heaviest mo_before mo_justSum mo_toldSum mo_allWays mo_lanes mo_sizes mo_cells mo_torn mo_had 1 5 (by omega) (by omega)) (cwV 2 hts gX8_readLine_X8_needs rfl rfl rfl ⟨rfl, hq_X8_needs⟩ ⟨Nat.le_of_ble_eq_true rfl, Nat.le_of_ble_eq_true rfl⟩) (hs_preV hK hN (hs_subP (w := [_]) hP [0] rfl) (hD.sub (ws' := [_]) [0] (hs_upnd rfl) rfl) (ci := 7) (q0 := 0) rfl rfl) rfl rfl hl.1 rfl (lv_room (Nat.le_of_ble_eq_true rfl)) dX8_readLine_79 ⟨Nat.le_of_ble_eq_true rfl, Nat.le_of_ble_eq_true rfl⟩) hP hD hS hA [false, true, true] [_, _] [_] rfl [0] rfl [0] (fun u_104 => [_]) (fun _ => rfl) (hs_upnd rfl) [false, true, true] (fun u_104 => [_, _, _]) (fun _ => rfl) (fun u_104 H locs hw_103 hP hD hS => ?_)
          have hw_103 : u_104.1 ≤ 7 ∧ (u_104.1 = 0 → u_94.1 = 0) ∧ ((1 : Int32) = 0 → ¬ u_104.1 = 0) ∧ u_104 = hNd u_94.1 u_94.2 mo_fr 1 5 := hw_103
          have hqhw_103 : u_104.1 = u_94.1 := by rw [hw_103.2.2.2, hNd, if_neg (fun z9 => absurd z9.1 (by decide))]
          have hzhw_103 : u_104.1 = 0 := hqhw_103.trans hzhw_93
          refine lv_aload_n hx hb dX8_readLine_82 rfl (lv_at hl 1 rfl) ?_
          refine va_get (D := D) (ci := 7) (v := .int (nI (u_104.1))) (C := RX8) (T := TX8) (N := 32) hx hb hts hiX8 hown hK hP 0 rfl rfl 16 (Nat.le_of_ble_eq_true rfl) fl78 (fun _ h9 => h9) rfl dX8_readLine_83 ?_
          refine lv_if_ne (tgt := 127) hx hb dX8_readLine_86 rfl (fun c_105 => absurd ((nI_eq (a := (u_104.1)) (b := 0) (by omega) (by omega)).mpr hzhw_103) c_105) (fun c_105 => ?_)
          refine lv_iload_n hx hb dX8_readLine_89 rfl (lv_at hl 0 rfl) ?_
          refine lv_iconst (v := 5) hx hb dX8_readLine_90 hki_5 ?_
          refine lv_icmp_lt (tgt := 127) hx hb dX8_readLine_91 rfl (fun c_106 => ?_) (fun c_106 => absurd c_106 (by decide))
          exact kj127_0 (2, mo_toldLines, u_104.1, u_104.2) (by (try dsimp only); exact ⟨by omega, fun _ => by rw [hLN, ck_py (by decide) (by omega)]; exact ⟨rfl, fun h9 => by first | omega | exact absurd h9 (by decide), fun h9 => by first | omega | exact absurd h9 (by decide), by decide, rfl, ⟨ta, hta, rfl, htl⟩⟩, fun h => absurd hzhw_103 h⟩) _ _ _ hP hD hS (lv_sub hl [0, 1] rfl)
      · refine lv_istore_n (lv' := [(1, .int 3), (0, .ref mo)]) hx hb dX8_readLine_17 rfl hl (Nat.le_of_ble_eq_true rfl) rfl (fun ls hl => ?_)
        have hLN : cLn tf mo_sort mo_fr mo_ps = 3 := cLn_uq c_25 (by decide) hyw
        refine lv_aload_n hx hb dX8_readLine_18 rfl (lv_at hl 1 rfl) ?_
        refine lv_iload_n hx hb dX8_readLine_19 rfl (lv_at hl 0 rfl) ?_
        refine lv_bipush (v := (-4)) hx hb dX8_readLine_20 hkb_m4 ?_
        refine lv_icmp_eq (tgt := 29) hx hb dX8_readLine_22 rfl (fun c_107 => absurd c_107 (by decide)) (fun c_107 => ?_)
        refine lv_iconst (v := 1) hx hb dX8_readLine_25 hki_1 ?_
        refine lv_goto (tgt := 30) hx hb dX8_readLine_26 rfl ?_
        refine lv_iconst (v := 2) hx hb dX8_readLine_30 hki_2 ?_
        refine hs_cvM (va_runV (As := [.int 1, .int 2]) (rest := []) ⟨hx, hb, hml, hown, hts⟩ (gr_needs l D k _ mo mo_st mo_at mo_isKept mo_pe mo_hm mo_draft mo_dp mo_dh mo_toldLines mo_highest mo_tape mo_tl mo_ps mo_fr mo_sort mo_value mo_ft mo_wrongAt mo_row mo_orderMany mo_fo mo_lightest mo_heaviest mo_before mo_justSum mo_toldSum mo_allWays mo_lanes mo_sizes mo_cells mo_torn mo_had 1 2 (by omega) (by omega)) (cwV 2 hts gX8_readLine_X8_needs rfl rfl rfl ⟨rfl, hq_X8_needs⟩ ⟨Nat.le_of_ble_eq_true rfl, Nat.le_of_ble_eq_true rfl⟩) (hs_preV hK hN (hs_subP (w := [_]) hP [0] rfl) (hD.sub (ws' := [_]) [0] (hs_upnd rfl) rfl) (ci := 7) (q0 := 0) rfl rfl) rfl rfl hl.1 rfl (lv_room (Nat.le_of_ble_eq_true rfl)) dX8_readLine_31 ⟨Nat.le_of_ble_eq_true rfl, Nat.le_of_ble_eq_true rfl⟩) hP hD hS hA [false, true, true] [_, _] [_] rfl [0] rfl [0] (fun u_110 => [_]) (fun _ => rfl) (hs_upnd rfl) [false, true, true] (fun u_110 => [_, _, _]) (fun _ => rfl) (fun u_110 H locs hw_109 hP hD hS => ?_)
        have hw_109 : u_110.1 ≤ 7 ∧ (u_110.1 = 0 → mo_ft = 0) ∧ ((1 : Int32) = 0 → ¬ u_110.1 = 0) ∧ u_110 = hNd mo_ft mo_wrongAt mo_fr 1 2 := hw_109
        have hqhw_109 : u_110.1 = mo_ft := by rw [hw_109.2.2.2, hNd, if_neg (fun z9 => absurd z9.1 (by decide))]
        have hzhw_109 : u_110.1 = 0 := hqhw_109.trans hft0
        refine lv_aload_n hx hb dX8_readLine_34 rfl (lv_at hl 1 rfl) ?_
        refine lv_iload_n hx hb dX8_readLine_35 rfl (lv_at hl 0 rfl) ?_
        refine lv_iconst (v := 4) hx hb dX8_readLine_36 hki_4 ?_
        refine lv_icmp_ne (tgt := 60) hx hb dX8_readLine_37 rfl (fun c_111 => ?_) (fun c_111 => absurd c_111 (by decide))
        refine lv_iload_n hx hb dX8_readLine_60 rfl (lv_at hl 0 rfl) ?_
        refine lv_iconst (v := 4) hx hb dX8_readLine_61 hki_4 ?_
        refine lv_icmp_gt (tgt := 73) hx hb dX8_readLine_62 rfl (fun c_112 => absurd c_112 (by decide)) (fun c_112 => ?_)
        refine lv_aload_n hx hb dX8_readLine_65 rfl (lv_at hl 1 rfl) ?_
        refine va_get (D := D) (ci := 7) (v := .int (nI mo_dp)) (C := RX8) (T := TX8) (N := 32) hx hb hts hiX8 hown hK hP 0 rfl rfl 6 (Nat.le_of_ble_eq_true rfl) fl50 (fun _ h9 => h9) rfl dX8_readLine_66 ?_
        refine lv_iconst (v := 4) hx hb dX8_readLine_69 hki_4 ?_
        refine lv_icmp_ge (tgt := 77) hx hb dX8_readLine_70 rfl (fun c_113 => ?_) (fun c_113 => ?_)
        · have nc_113 : 4 ≤ mo_dp := (nI_leI (a := 4) (b := mo_dp) (by omega) (by omega)).mp c_113
          refine lv_iconst (v := 0) hx hb dX8_readLine_77 hki_0 ?_
          refine lv_iconst (v := 5) hx hb dX8_readLine_78 hki_5 ?_
          refine hs_cvM (va_runV (As := [.int 0, .int 5]) (rest := []) ⟨hx, hb, hml, hown, hts⟩ (gr_needs l D k _ mo mo_st mo_at mo_isKept mo_pe mo_hm mo_draft mo_dp mo_dh mo_toldLines mo_highest mo_tape mo_tl mo_ps mo_fr mo_sort mo_value u_110.1 u_110.2 mo_row mo_orderMany mo_fo mo_lightest mo_heaviest mo_before mo_justSum mo_toldSum mo_allWays mo_lanes mo_sizes mo_cells mo_torn mo_had 0 5 (by omega) (by omega)) (cwV 2 hts gX8_readLine_X8_needs rfl rfl rfl ⟨rfl, hq_X8_needs⟩ ⟨Nat.le_of_ble_eq_true rfl, Nat.le_of_ble_eq_true rfl⟩) (hs_preV hK hN (hs_subP (w := [_]) hP [0] rfl) (hD.sub (ws' := [_]) [0] (hs_upnd rfl) rfl) (ci := 7) (q0 := 0) rfl rfl) rfl rfl hl.1 rfl (lv_room (Nat.le_of_ble_eq_true rfl)) dX8_readLine_79 ⟨Nat.le_of_ble_eq_true rfl, Nat.le_of_ble_eq_true rfl⟩) hP hD hS hA [false, true, true] [_, _] [_] rfl [0] rfl [0] (fun u_116 => [_]) (fun _ => rfl) (hs_upnd rfl) [false, true, true] (fun u_116 => [_, _, _]) (fun _ => rfl) (fun u_116 H locs hw_115 hP hD hS => ?_)
          have hw_115 : u_116.1 ≤ 7 ∧ (u_116.1 = 0 → u_110.1 = 0) ∧ ((0 : Int32) = 0 → ¬ u_116.1 = 0) ∧ u_116 = hNd u_110.1 u_110.2 mo_fr 0 5 := hw_115
          have hzhw_115 := hw_115.2.2.1 rfl
          refine lv_aload_n hx hb dX8_readLine_82 rfl (lv_at hl 1 rfl) ?_
          refine va_get (D := D) (ci := 7) (v := .int (nI (u_116.1))) (C := RX8) (T := TX8) (N := 32) hx hb hts hiX8 hown hK hP 0 rfl rfl 16 (Nat.le_of_ble_eq_true rfl) fl78 (fun _ h9 => h9) rfl dX8_readLine_83 ?_
          refine lv_if_ne (tgt := 127) hx hb dX8_readLine_86 rfl (fun c_117 => ?_) (fun c_117 => absurd ((nI_eq (a := (u_116.1)) (b := 0) (by omega) (by omega)).mp c_117) hzhw_115)
          exact kj127_0 (3, mo_toldLines, u_116.1, u_116.2) (by (try dsimp only); exact ⟨by omega, fun h => absurd h hzhw_115, fun _ => by rw [hLN, ck_pn (by decide) (by omega)]; exact ⟨(show ¬ (5 : Int32) = 0 from by decide), (by rw [hw_115.2.2.2, hNd, if_pos ⟨rfl, hzhw_109⟩])⟩⟩) _ _ _ hP hD hS (lv_sub hl [0, 1] rfl)
        · have nc_113 : ¬ 4 ≤ mo_dp := fun hq9 => c_113 ((nI_leI (a := 4) (b := mo_dp) (by omega) (by omega)).mpr hq9)
          refine lv_iconst (v := 1) hx hb dX8_readLine_73 hki_1 ?_
          refine lv_goto (tgt := 78) hx hb dX8_readLine_74 rfl ?_
          refine lv_iconst (v := 5) hx hb dX8_readLine_78 hki_5 ?_
          refine hs_cvM (va_runV (As := [.int 1, .int 5]) (rest := []) ⟨hx, hb, hml, hown, hts⟩ (gr_needs l D k _ mo mo_st mo_at mo_isKept mo_pe mo_hm mo_draft mo_dp mo_dh mo_toldLines mo_highest mo_tape mo_tl mo_ps mo_fr mo_sort mo_value u_110.1 u_110.2 mo_row mo_orderMany mo_fo mo_lightest mo_heaviest mo_before mo_justSum mo_toldSum mo_allWays mo_lanes mo_sizes mo_cells mo_torn mo_had 1 5 (by omega) (by omega)) (cwV 2 hts gX8_readLine_X8_needs rfl rfl rfl ⟨rfl, hq_X8_needs⟩ ⟨Nat.le_of_ble_eq_true rfl, Nat.le_of_ble_eq_true rfl⟩) (hs_preV hK hN (hs_subP (w := [_]) hP [0] rfl) (hD.sub (ws' := [_]) [0] (hs_upnd rfl) rfl) (ci := 7) (q0 := 0) rfl rfl) rfl rfl hl.1 rfl (lv_room (Nat.le_of_ble_eq_true rfl)) dX8_readLine_79 ⟨Nat.le_of_ble_eq_true rfl, Nat.le_of_ble_eq_true rfl⟩) hP hD hS hA [false, true, true] [_, _] [_] rfl [0] rfl [0] (fun u_120 => [_]) (fun _ => rfl) (hs_upnd rfl) [false, true, true] (fun u_120 => [_, _, _]) (fun _ => rfl) (fun u_120 H locs hw_119 hP hD hS => ?_)
          have hw_119 : u_120.1 ≤ 7 ∧ (u_120.1 = 0 → u_110.1 = 0) ∧ ((1 : Int32) = 0 → ¬ u_120.1 = 0) ∧ u_120 = hNd u_110.1 u_110.2 mo_fr 1 5 := hw_119
          have hqhw_119 : u_120.1 = u_110.1 := by rw [hw_119.2.2.2, hNd, if_neg (fun z9 => absurd z9.1 (by decide))]
          have hzhw_119 : u_120.1 = 0 := hqhw_119.trans hzhw_109
          refine lv_aload_n hx hb dX8_readLine_82 rfl (lv_at hl 1 rfl) ?_
          refine va_get (D := D) (ci := 7) (v := .int (nI (u_120.1))) (C := RX8) (T := TX8) (N := 32) hx hb hts hiX8 hown hK hP 0 rfl rfl 16 (Nat.le_of_ble_eq_true rfl) fl78 (fun _ h9 => h9) rfl dX8_readLine_83 ?_
          refine lv_if_ne (tgt := 127) hx hb dX8_readLine_86 rfl (fun c_121 => absurd ((nI_eq (a := (u_120.1)) (b := 0) (by omega) (by omega)).mpr hzhw_119) c_121) (fun c_121 => ?_)
          refine lv_iload_n hx hb dX8_readLine_89 rfl (lv_at hl 0 rfl) ?_
          refine lv_iconst (v := 5) hx hb dX8_readLine_90 hki_5 ?_
          refine lv_icmp_lt (tgt := 127) hx hb dX8_readLine_91 rfl (fun c_122 => ?_) (fun c_122 => absurd c_122 (by decide))
          exact kj127_0 (3, mo_toldLines, u_120.1, u_120.2) (by (try dsimp only); exact ⟨by omega, fun _ => by rw [hLN, ck_py (by decide) (by omega)]; exact ⟨rfl, fun h9 => by first | omega | exact absurd h9 (by decide), fun h9 => by first | omega | exact absurd h9 (by decide), by decide, rfl, ⟨ta, hta, rfl, htl⟩⟩, fun h => absurd hzhw_119 h⟩) _ _ _ hP hD hS (lv_sub hl [0, 1] rfl)
      · refine lv_istore_n (lv' := [(1, .int 5), (0, .ref mo)]) hx hb dX8_readLine_17 rfl hl (Nat.le_of_ble_eq_true rfl) rfl (fun ls hl => ?_)
        have hLN : cLn tf mo_sort mo_fr mo_ps = 4 := cLn_uq c_25 (by decide) hyw
        refine lv_aload_n hx hb dX8_readLine_18 rfl (lv_at hl 1 rfl) ?_
        refine lv_iload_n hx hb dX8_readLine_19 rfl (lv_at hl 0 rfl) ?_
        refine lv_bipush (v := (-4)) hx hb dX8_readLine_20 hkb_m4 ?_
        refine lv_icmp_eq (tgt := 29) hx hb dX8_readLine_22 rfl (fun c_123 => absurd c_123 (by decide)) (fun c_123 => ?_)
        refine lv_iconst (v := 1) hx hb dX8_readLine_25 hki_1 ?_
        refine lv_goto (tgt := 30) hx hb dX8_readLine_26 rfl ?_
        refine lv_iconst (v := 2) hx hb dX8_readLine_30 hki_2 ?_
        refine hs_cvM (va_runV (As := [.int 1, .int 2]) (rest := []) ⟨hx, hb, hml, hown, hts⟩ (gr_needs l D k _ mo mo_st mo_at mo_isKept mo_pe mo_hm mo_draft mo_dp mo_dh mo_toldLines mo_highest mo_tape mo_tl mo_ps mo_fr mo_sort mo_value mo_ft mo_wrongAt mo_row mo_orderMany mo_fo mo_lightest mo_heaviest mo_before mo_justSum mo_toldSum mo_allWays mo_lanes mo_sizes mo_cells mo_torn mo_had 1 2 (by omega) (by omega)) (cwV 2 hts gX8_readLine_X8_needs rfl rfl rfl ⟨rfl, hq_X8_needs⟩ ⟨Nat.le_of_ble_eq_true rfl, Nat.le_of_ble_eq_true rfl⟩) (hs_preV hK hN (hs_subP (w := [_]) hP [0] rfl) (hD.sub (ws' := [_]) [0] (hs_upnd rfl) rfl) (ci := 7) (q0 := 0) rfl rfl) rfl rfl hl.1 rfl (lv_room (Nat.le_of_ble_eq_true rfl)) dX8_readLine_31 ⟨Nat.le_of_ble_eq_true rfl, Nat.le_of_ble_eq_true rfl⟩) hP hD hS hA [false, true, true] [_, _] [_] rfl [0] rfl [0] (fun u_126 => [_]) (fun _ => rfl) (hs_upnd rfl) [false, true, true] (fun u_126 => [_, _, _]) (fun _ => rfl) (fun u_126 H locs hw_125 hP hD hS => ?_)
        have hw_125 : u_126.1 ≤ 7 ∧ (u_126.1 = 0 → mo_ft = 0) ∧ ((1 : Int32) = 0 → ¬ u_126.1 = 0) ∧ u_126 = hNd mo_ft mo_wrongAt mo_fr 1 2 := hw_125
        have hqhw_125 : u_126.1 = mo_ft := by rw [hw_125.2.2.2, hNd, if_neg (fun z9 => absurd z9.1 (by decide))]
        have hzhw_125 : u_126.1 = 0 := hqhw_125.trans hft0
        refine lv_aload_n hx hb dX8_readLine_34 rfl (lv_at hl 1 rfl) ?_
        refine lv_iload_n hx hb dX8_readLine_35 rfl (lv_at hl 0 rfl) ?_
        refine lv_iconst (v := 4) hx hb dX8_readLine_36 hki_4 ?_
        refine lv_icmp_ne (tgt := 60) hx hb dX8_readLine_37 rfl (fun c_127 => ?_) (fun c_127 => absurd c_127 (by decide))
        refine lv_iload_n hx hb dX8_readLine_60 rfl (lv_at hl 0 rfl) ?_
        refine lv_iconst (v := 4) hx hb dX8_readLine_61 hki_4 ?_
        refine lv_icmp_gt (tgt := 73) hx hb dX8_readLine_62 rfl (fun c_128 => ?_) (fun c_128 => absurd c_128 (by decide))
        refine lv_iconst (v := 1) hx hb dX8_readLine_73 hki_1 ?_
        refine lv_goto (tgt := 78) hx hb dX8_readLine_74 rfl ?_
        refine lv_iconst (v := 5) hx hb dX8_readLine_78 hki_5 ?_
        refine hs_cvM (va_runV (As := [.int 1, .int 5]) (rest := []) ⟨hx, hb, hml, hown, hts⟩ (gr_needs l D k _ mo mo_st mo_at mo_isKept mo_pe mo_hm mo_draft mo_dp mo_dh mo_toldLines mo_highest mo_tape mo_tl mo_ps mo_fr mo_sort mo_value u_126.1 u_126.2 mo_row mo_orderMany mo_fo mo_lightest mo_heaviest mo_before mo_justSum mo_toldSum mo_allWays mo_lanes mo_sizes mo_cells mo_torn mo_had 1 5 (by omega) (by omega)) (cwV 2 hts gX8_readLine_X8_needs rfl rfl rfl ⟨rfl, hq_X8_needs⟩ ⟨Nat.le_of_ble_eq_true rfl, Nat.le_of_ble_eq_true rfl⟩) (hs_preV hK hN (hs_subP (w := [_]) hP [0] rfl) (hD.sub (ws' := [_]) [0] (hs_upnd rfl) rfl) (ci := 7) (q0 := 0) rfl rfl) rfl rfl hl.1 rfl (lv_room (Nat.le_of_ble_eq_true rfl)) dX8_readLine_79 ⟨Nat.le_of_ble_eq_true rfl, Nat.le_of_ble_eq_true rfl⟩) hP hD hS hA [false, true, true] [_, _] [_] rfl [0] rfl [0] (fun u_131 => [_]) (fun _ => rfl) (hs_upnd rfl) [false, true, true] (fun u_131 => [_, _, _]) (fun _ => rfl) (fun u_131 H locs hw_130 hP hD hS => ?_)
        have hw_130 : u_131.1 ≤ 7 ∧ (u_131.1 = 0 → u_126.1 = 0) ∧ ((1 : Int32) = 0 → ¬ u_131.1 = 0) ∧ u_131 = hNd u_126.1 u_126.2 mo_fr 1 5 := hw_130
        have hqhw_130 : u_131.1 = u_126.1 := by rw [hw_130.2.2.2, hNd, if_neg (fun z9 => absurd z9.1 (by decide))]
        have hzhw_130 : u_131.1 = 0 := hqhw_130.trans hzhw_125
        refine lv_aload_n hx hb dX8_readLine_82 rfl (lv_at hl 1 rfl) ?_
        refine va_get (D := D) (ci := 7) (v := .int (nI (u_131.1))) (C := RX8) (T := TX8) (N := 32) hx hb hts hiX8 hown hK hP 0 rfl rfl 16 (Nat.le_of_ble_eq_true rfl) fl78 (fun _ h9 => h9) rfl dX8_readLine_83 ?_
        refine lv_if_ne (tgt := 127) hx hb dX8_readLine_86 rfl (fun c_132 => absurd ((nI_eq (a := (u_131.1)) (b := 0) (by omega) (by omega)).mpr hzhw_130) c_132) (fun c_132 => ?_)
        refine lv_iload_n hx hb dX8_readLine_89 rfl (lv_at hl 0 rfl) ?_
        refine lv_iconst (v := 5) hx hb dX8_readLine_90 hki_5 ?_
        refine lv_icmp_lt (tgt := 127) hx hb dX8_readLine_91 rfl (fun c_133 => absurd c_133 (by decide)) (fun c_133 => ?_)
        refine lv_aload_n hx hb dX8_readLine_94 rfl (lv_at hl 1 rfl) ?_
        refine lv_aload_n hx hb dX8_readLine_95 rfl (lv_at hl 1 rfl) ?_
        refine va_get (D := D) (ci := 7) (v := .int mo_toldLines) (C := RX8) (T := TX8) (N := 32) hx hb hts hiX8 hown hK hP 0 rfl rfl 8 (Nat.le_of_ble_eq_true rfl) fl57 (fun _ h9 => h9) rfl dX8_readLine_96 ?_
        refine lv_iload_n hx hb dX8_readLine_99 rfl (lv_at hl 0 rfl) ?_
        refine lv_ishr hx hb dX8_readLine_100 ?_
        refine lv_iconst (v := 1) hx hb dX8_readLine_101 hki_1 ?_
        refine lv_iand hx hb dX8_readLine_102 ?_
        refine lv_if_ne (tgt := 110) hx hb dX8_readLine_103 rfl (fun c_134 => ?_) (fun c_134 => ?_)
        · refine lv_iconst (v := 0) hx hb dX8_readLine_110 hki_0 ?_
          refine lv_iconst (v := 4) hx hb dX8_readLine_111 hki_4 ?_
          refine hs_cvM (va_runV (As := [.int 0, .int 4]) (rest := []) ⟨hx, hb, hml, hown, hts⟩ (gr_needs l D k _ mo mo_st mo_at mo_isKept mo_pe mo_hm mo_draft mo_dp mo_dh mo_toldLines mo_highest mo_tape mo_tl mo_ps mo_fr mo_sort mo_value u_131.1 u_131.2 mo_row mo_orderMany mo_fo mo_lightest mo_heaviest mo_before mo_justSum mo_toldSum mo_allWays mo_lanes mo_sizes mo_cells mo_torn mo_had 0 4 (by omega) (by omega)) (cwV 2 hts gX8_readLine_X8_needs rfl rfl rfl ⟨rfl, hq_X8_needs⟩ ⟨Nat.le_of_ble_eq_true rfl, Nat.le_of_ble_eq_true rfl⟩) (hs_preV hK hN (hs_subP (w := [_]) hP [0] rfl) (hD.sub (ws' := [_]) [0] (hs_upnd rfl) rfl) (ci := 7) (q0 := 0) rfl rfl) rfl rfl hl.1 rfl (lv_room (Nat.le_of_ble_eq_true rfl)) dX8_readLine_112 ⟨Nat.le_of_ble_eq_true rfl, Nat.le_of_ble_eq_true rfl⟩) hP hD hS hA [false, true, true] [_, _] [_] rfl [0] rfl [0] (fun u_137 => [_]) (fun _ => rfl) (hs_upnd rfl) [false, true, true] (fun u_137 => [_, _, _]) (fun _ => rfl) (fun u_137 H locs hw_136 hP hD hS => ?_)
          have hw_136 : u_137.1 ≤ 7 ∧ (u_137.1 = 0 → u_131.1 = 0) ∧ ((0 : Int32) = 0 → ¬ u_137.1 = 0) ∧ u_137 = hNd u_131.1 u_131.2 mo_fr 0 4 := hw_136
          have hzhw_136 := hw_136.2.2.1 rfl
          refine lv_aload_n hx hb dX8_readLine_115 rfl (lv_at hl 1 rfl) ?_
          refine lv_dup hx hb dX8_readLine_116 rfl ?_
          refine va_get (D := D) (ci := 7) (v := .int mo_toldLines) (C := RX8) (T := TX8) (N := 32) hx hb hts hiX8 hown hK hP 0 rfl rfl 8 (Nat.le_of_ble_eq_true rfl) fl57 (fun _ h9 => h9) rfl dX8_readLine_117 ?_
          refine lv_iconst (v := 1) hx hb dX8_readLine_120 hki_1 ?_
          refine lv_iload_n hx hb dX8_readLine_121 rfl (lv_at hl 0 rfl) ?_
          refine lv_ishl hx hb dX8_readLine_122 ?_
          refine hs_topi 32 (by first | rfl | decide +kernel) ?_
          refine lv_ior hx hb dX8_readLine_123 ?_
          refine va_put (D := D) (ci := 7) (v := .int (mo_toldLines ||| 32)) (ty := .int) (C := RX8) (T := TX8) (N := 32) hx hb hts hiX8 tyX8 tyX8_ok nmX8 hown hK hP hD hS 0 rfl rfl 8 (Nat.le_of_ble_eq_true rfl) fl57 (fun _ h9 => h9) rfl (by decide +kernel) rfl rfl (Nat.le_of_ble_eq_true rfl) dX8_readLine_124 (fun H locs hP hD hS => ?_)
          have hP : va_P D vwCl [oq7 mo mo_st mo_at mo_isKept (nI mo_pe) (nI mo_hm) mo_draft (nI mo_dp) (nI mo_dh) (mo_toldLines ||| 32) mo_highest mo_tape (nI mo_tl) (nI mo_ps) (nI mo_fr) mo_sort mo_value (nI (u_137.1)) u_137.2 mo_row mo_orderMany (nI mo_fo) mo_lightest mo_heaviest mo_before mo_justSum mo_toldSum mo_allWays mo_lanes mo_sizes mo_cells mo_torn mo_had, _, _] H := hP
          have hD : va_D A [oq7 mo mo_st mo_at mo_isKept (nI mo_pe) (nI mo_hm) mo_draft (nI mo_dp) (nI mo_dh) (mo_toldLines ||| 32) mo_highest mo_tape (nI mo_tl) (nI mo_ps) (nI mo_fr) mo_sort mo_value (nI (u_137.1)) u_137.2 mo_row mo_orderMany (nI mo_fo) mo_lightest mo_heaviest mo_before mo_justSum mo_toldSum mo_allWays mo_lanes mo_sizes mo_cells mo_torn mo_had, _, _] := hD
          exact kj127_0 (5, mo_toldLines ||| 32, u_137.1, u_137.2) (by (try dsimp only); exact ⟨by omega, fun h => absurd h hzhw_136, fun _ => by rw [hLN, ck_tn (ln := 4) (by decide) ((told_bit ta hta 0 (by decide)).mpr (by rw [← htl]; exact c_134))]; exact ⟨(show ¬ (4 : Int32) = 0 from by decide), (by rw [hw_136.2.2.2, hNd, if_pos ⟨rfl, hzhw_130⟩])⟩⟩) _ _ _ hP hD hS (lv_sub hl [0, 1] rfl)
        · refine lv_iconst (v := 1) hx hb dX8_readLine_106 hki_1 ?_
          refine lv_goto (tgt := 111) hx hb dX8_readLine_107 rfl ?_
          refine lv_iconst (v := 4) hx hb dX8_readLine_111 hki_4 ?_
          refine hs_cvM (va_runV (As := [.int 1, .int 4]) (rest := []) ⟨hx, hb, hml, hown, hts⟩ (gr_needs l D k _ mo mo_st mo_at mo_isKept mo_pe mo_hm mo_draft mo_dp mo_dh mo_toldLines mo_highest mo_tape mo_tl mo_ps mo_fr mo_sort mo_value u_131.1 u_131.2 mo_row mo_orderMany mo_fo mo_lightest mo_heaviest mo_before mo_justSum mo_toldSum mo_allWays mo_lanes mo_sizes mo_cells mo_torn mo_had 1 4 (by omega) (by omega)) (cwV 2 hts gX8_readLine_X8_needs rfl rfl rfl ⟨rfl, hq_X8_needs⟩ ⟨Nat.le_of_ble_eq_true rfl, Nat.le_of_ble_eq_true rfl⟩) (hs_preV hK hN (hs_subP (w := [_]) hP [0] rfl) (hD.sub (ws' := [_]) [0] (hs_upnd rfl) rfl) (ci := 7) (q0 := 0) rfl rfl) rfl rfl hl.1 rfl (lv_room (Nat.le_of_ble_eq_true rfl)) dX8_readLine_112 ⟨Nat.le_of_ble_eq_true rfl, Nat.le_of_ble_eq_true rfl⟩) hP hD hS hA [false, true, true] [_, _] [_] rfl [0] rfl [0] (fun u_140 => [_]) (fun _ => rfl) (hs_upnd rfl) [false, true, true] (fun u_140 => [_, _, _]) (fun _ => rfl) (fun u_140 H locs hw_139 hP hD hS => ?_)
          have hw_139 : u_140.1 ≤ 7 ∧ (u_140.1 = 0 → u_131.1 = 0) ∧ ((1 : Int32) = 0 → ¬ u_140.1 = 0) ∧ u_140 = hNd u_131.1 u_131.2 mo_fr 1 4 := hw_139
          have hqhw_139 : u_140.1 = u_131.1 := by rw [hw_139.2.2.2, hNd, if_neg (fun z9 => absurd z9.1 (by decide))]
          have hzhw_139 : u_140.1 = 0 := hqhw_139.trans hzhw_130
          refine lv_aload_n hx hb dX8_readLine_115 rfl (lv_at hl 1 rfl) ?_
          refine lv_dup hx hb dX8_readLine_116 rfl ?_
          refine va_get (D := D) (ci := 7) (v := .int mo_toldLines) (C := RX8) (T := TX8) (N := 32) hx hb hts hiX8 hown hK hP 0 rfl rfl 8 (Nat.le_of_ble_eq_true rfl) fl57 (fun _ h9 => h9) rfl dX8_readLine_117 ?_
          refine lv_iconst (v := 1) hx hb dX8_readLine_120 hki_1 ?_
          refine lv_iload_n hx hb dX8_readLine_121 rfl (lv_at hl 0 rfl) ?_
          refine lv_ishl hx hb dX8_readLine_122 ?_
          refine hs_topi 32 (by first | rfl | decide +kernel) ?_
          refine lv_ior hx hb dX8_readLine_123 ?_
          refine va_put (D := D) (ci := 7) (v := .int (mo_toldLines ||| 32)) (ty := .int) (C := RX8) (T := TX8) (N := 32) hx hb hts hiX8 tyX8 tyX8_ok nmX8 hown hK hP hD hS 0 rfl rfl 8 (Nat.le_of_ble_eq_true rfl) fl57 (fun _ h9 => h9) rfl (by decide +kernel) rfl rfl (Nat.le_of_ble_eq_true rfl) dX8_readLine_124 (fun H locs hP hD hS => ?_)
          have hP : va_P D vwCl [oq7 mo mo_st mo_at mo_isKept (nI mo_pe) (nI mo_hm) mo_draft (nI mo_dp) (nI mo_dh) (mo_toldLines ||| 32) mo_highest mo_tape (nI mo_tl) (nI mo_ps) (nI mo_fr) mo_sort mo_value (nI (u_140.1)) u_140.2 mo_row mo_orderMany (nI mo_fo) mo_lightest mo_heaviest mo_before mo_justSum mo_toldSum mo_allWays mo_lanes mo_sizes mo_cells mo_torn mo_had, _, _] H := hP
          have hD : va_D A [oq7 mo mo_st mo_at mo_isKept (nI mo_pe) (nI mo_hm) mo_draft (nI mo_dp) (nI mo_dh) (mo_toldLines ||| 32) mo_highest mo_tape (nI mo_tl) (nI mo_ps) (nI mo_fr) mo_sort mo_value (nI (u_140.1)) u_140.2 mo_row mo_orderMany (nI mo_fo) mo_lightest mo_heaviest mo_before mo_justSum mo_toldSum mo_allWays mo_lanes mo_sizes mo_cells mo_torn mo_had, _, _] := hD
          exact kj127_0 (5, mo_toldLines ||| 32, u_140.1, u_140.2) (by (try dsimp only); exact ⟨by omega, fun _ => by rw [hLN, ck_ty (ln := 4) (by decide) (fun z9 => ((told_bit ta hta 0 (by decide)).mp z9) (by rw [← htl]; exact c_134))]; exact ⟨rfl, fun h9 => by first | omega | exact absurd h9 (by decide), fun h9 => by first | omega | exact absurd h9 (by decide), by decide, rfl, ⟨_, (told_or ta hta 0 (by decide)).2.2, (told_or ta hta 0 (by decide)).1, (by rw [htl, show (32 : Int32) = 1 <<< (nI (5 + 0) &&& 31) from by decide]; exact (told_or ta hta 0 (by decide)).2.1)⟩⟩, fun h => absurd hzhw_139 h⟩) _ _ _ hP hD hS (lv_sub hl [0, 1] rfl)
      · refine lv_istore_n (lv' := [(1, .int 6), (0, .ref mo)]) hx hb dX8_readLine_17 rfl hl (Nat.le_of_ble_eq_true rfl) rfl (fun ls hl => ?_)
        have hLN : cLn tf mo_sort mo_fr mo_ps = 5 := cLn_uq c_25 (by decide) hyw
        refine lv_aload_n hx hb dX8_readLine_18 rfl (lv_at hl 1 rfl) ?_
        refine lv_iload_n hx hb dX8_readLine_19 rfl (lv_at hl 0 rfl) ?_
        refine lv_bipush (v := (-4)) hx hb dX8_readLine_20 hkb_m4 ?_
        refine lv_icmp_eq (tgt := 29) hx hb dX8_readLine_22 rfl (fun c_141 => absurd c_141 (by decide)) (fun c_141 => ?_)
        refine lv_iconst (v := 1) hx hb dX8_readLine_25 hki_1 ?_
        refine lv_goto (tgt := 30) hx hb dX8_readLine_26 rfl ?_
        refine lv_iconst (v := 2) hx hb dX8_readLine_30 hki_2 ?_
        refine hs_cvM (va_runV (As := [.int 1, .int 2]) (rest := []) ⟨hx, hb, hml, hown, hts⟩ (gr_needs l D k _ mo mo_st mo_at mo_isKept mo_pe mo_hm mo_draft mo_dp mo_dh mo_toldLines mo_highest mo_tape mo_tl mo_ps mo_fr mo_sort mo_value mo_ft mo_wrongAt mo_row mo_orderMany mo_fo mo_lightest mo_heaviest mo_before mo_justSum mo_toldSum mo_allWays mo_lanes mo_sizes mo_cells mo_torn mo_had 1 2 (by omega) (by omega)) (cwV 2 hts gX8_readLine_X8_needs rfl rfl rfl ⟨rfl, hq_X8_needs⟩ ⟨Nat.le_of_ble_eq_true rfl, Nat.le_of_ble_eq_true rfl⟩) (hs_preV hK hN (hs_subP (w := [_]) hP [0] rfl) (hD.sub (ws' := [_]) [0] (hs_upnd rfl) rfl) (ci := 7) (q0 := 0) rfl rfl) rfl rfl hl.1 rfl (lv_room (Nat.le_of_ble_eq_true rfl)) dX8_readLine_31 ⟨Nat.le_of_ble_eq_true rfl, Nat.le_of_ble_eq_true rfl⟩) hP hD hS hA [false, true, true] [_, _] [_] rfl [0] rfl [0] (fun u_144 => [_]) (fun _ => rfl) (hs_upnd rfl) [false, true, true] (fun u_144 => [_, _, _]) (fun _ => rfl) (fun u_144 H locs hw_143 hP hD hS => ?_)
        have hw_143 : u_144.1 ≤ 7 ∧ (u_144.1 = 0 → mo_ft = 0) ∧ ((1 : Int32) = 0 → ¬ u_144.1 = 0) ∧ u_144 = hNd mo_ft mo_wrongAt mo_fr 1 2 := hw_143
        have hqhw_143 : u_144.1 = mo_ft := by rw [hw_143.2.2.2, hNd, if_neg (fun z9 => absurd z9.1 (by decide))]
        have hzhw_143 : u_144.1 = 0 := hqhw_143.trans hft0
        refine lv_aload_n hx hb dX8_readLine_34 rfl (lv_at hl 1 rfl) ?_
        refine lv_iload_n hx hb dX8_readLine_35 rfl (lv_at hl 0 rfl) ?_
        refine lv_iconst (v := 4) hx hb dX8_readLine_36 hki_4 ?_
        refine lv_icmp_ne (tgt := 60) hx hb dX8_readLine_37 rfl (fun c_145 => ?_) (fun c_145 => absurd c_145 (by decide))
        refine lv_iload_n hx hb dX8_readLine_60 rfl (lv_at hl 0 rfl) ?_
        refine lv_iconst (v := 4) hx hb dX8_readLine_61 hki_4 ?_
        refine lv_icmp_gt (tgt := 73) hx hb dX8_readLine_62 rfl (fun c_146 => ?_) (fun c_146 => absurd c_146 (by decide))
        refine lv_iconst (v := 1) hx hb dX8_readLine_73 hki_1 ?_
        refine lv_goto (tgt := 78) hx hb dX8_readLine_74 rfl ?_
        refine lv_iconst (v := 5) hx hb dX8_readLine_78 hki_5 ?_
        refine hs_cvM (va_runV (As := [.int 1, .int 5]) (rest := []) ⟨hx, hb, hml, hown, hts⟩ (gr_needs l D k _ mo mo_st mo_at mo_isKept mo_pe mo_hm mo_draft mo_dp mo_dh mo_toldLines mo_highest mo_tape mo_tl mo_ps mo_fr mo_sort mo_value u_144.1 u_144.2 mo_row mo_orderMany mo_fo mo_lightest mo_heaviest mo_before mo_justSum mo_toldSum mo_allWays mo_lanes mo_sizes mo_cells mo_torn mo_had 1 5 (by omega) (by omega)) (cwV 2 hts gX8_readLine_X8_needs rfl rfl rfl ⟨rfl, hq_X8_needs⟩ ⟨Nat.le_of_ble_eq_true rfl, Nat.le_of_ble_eq_true rfl⟩) (hs_preV hK hN (hs_subP (w := [_]) hP [0] rfl) (hD.sub (ws' := [_]) [0] (hs_upnd rfl) rfl) (ci := 7) (q0 := 0) rfl rfl) rfl rfl hl.1 rfl (lv_room (Nat.le_of_ble_eq_true rfl)) dX8_readLine_79 ⟨Nat.le_of_ble_eq_true rfl, Nat.le_of_ble_eq_true rfl⟩) hP hD hS hA [false, true, true] [_, _] [_] rfl [0] rfl [0] (fun u_149 => [_]) (fun _ => rfl) (hs_upnd rfl) [false, true, true] (fun u_149 => [_, _, _]) (fun _ => rfl) (fun u_149 H locs hw_148 hP hD hS => ?_)
        have hw_148 : u_149.1 ≤ 7 ∧ (u_149.1 = 0 → u_144.1 = 0) ∧ ((1 : Int32) = 0 → ¬ u_149.1 = 0) ∧ u_149 = hNd u_144.1 u_144.2 mo_fr 1 5 := hw_148
        have hqhw_148 : u_149.1 = u_144.1 := by rw [hw_148.2.2.2, hNd, if_neg (fun z9 => absurd z9.1 (by decide))]
        have hzhw_148 : u_149.1 = 0 := hqhw_148.trans hzhw_143
        refine lv_aload_n hx hb dX8_readLine_82 rfl (lv_at hl 1 rfl) ?_
        refine va_get (D := D) (ci := 7) (v := .int (nI (u_149.1))) (C := RX8) (T := TX8) (N := 32) hx hb hts hiX8 hown hK hP 0 rfl rfl 16 (Nat.le_of_ble_eq_true rfl) fl78 (fun _ h9 => h9) rfl dX8_readLine_83 ?_
        refine lv_if_ne (tgt := 127) hx hb dX8_readLine_86 rfl (fun c_150 => absurd ((nI_eq (a := (u_149.1)) (b := 0) (by omega) (by omega)).mpr hzhw_148) c_150) (fun c_150 => ?_)
        refine lv_iload_n hx hb dX8_readLine_89 rfl (lv_at hl 0 rfl) ?_
        refine lv_iconst (v := 5) hx hb dX8_readLine_90 hki_5 ?_
        refine lv_icmp_lt (tgt := 127) hx hb dX8_readLine_91 rfl (fun c_151 => absurd c_151 (by decide)) (fun c_151 => ?_)
        refine lv_aload_n hx hb dX8_readLine_94 rfl (lv_at hl 1 rfl) ?_
        refine lv_aload_n hx hb dX8_readLine_95 rfl (lv_at hl 1 rfl) ?_
        refine va_get (D := D) (ci := 7) (v := .int mo_toldLines) (C := RX8) (T := TX8) (N := 32) hx hb hts hiX8 hown hK hP 0 rfl rfl 8 (Nat.le_of_ble_eq_true rfl) fl57 (fun _ h9 => h9) rfl dX8_readLine_96 ?_
        refine lv_iload_n hx hb dX8_readLine_99 rfl (lv_at hl 0 rfl) ?_
        refine lv_ishr hx hb dX8_readLine_100 ?_
        refine lv_iconst (v := 1) hx hb dX8_readLine_101 hki_1 ?_
        refine lv_iand hx hb dX8_readLine_102 ?_
        refine lv_if_ne (tgt := 110) hx hb dX8_readLine_103 rfl (fun c_152 => ?_) (fun c_152 => ?_)
        · refine lv_iconst (v := 0) hx hb dX8_readLine_110 hki_0 ?_
          refine lv_iconst (v := 4) hx hb dX8_readLine_111 hki_4 ?_
          refine hs_cvM (va_runV (As := [.int 0, .int 4]) (rest := []) ⟨hx, hb, hml, hown, hts⟩ (gr_needs l D k _ mo mo_st mo_at mo_isKept mo_pe mo_hm mo_draft mo_dp mo_dh mo_toldLines mo_highest mo_tape mo_tl mo_ps mo_fr mo_sort mo_value u_149.1 u_149.2 mo_row mo_orderMany mo_fo mo_lightest mo_heaviest mo_before mo_justSum mo_toldSum mo_allWays mo_lanes mo_sizes mo_cells mo_torn mo_had 0 4 (by omega) (by omega)) (cwV 2 hts gX8_readLine_X8_needs rfl rfl rfl ⟨rfl, hq_X8_needs⟩ ⟨Nat.le_of_ble_eq_true rfl, Nat.le_of_ble_eq_true rfl⟩) (hs_preV hK hN (hs_subP (w := [_]) hP [0] rfl) (hD.sub (ws' := [_]) [0] (hs_upnd rfl) rfl) (ci := 7) (q0 := 0) rfl rfl) rfl rfl hl.1 rfl (lv_room (Nat.le_of_ble_eq_true rfl)) dX8_readLine_112 ⟨Nat.le_of_ble_eq_true rfl, Nat.le_of_ble_eq_true rfl⟩) hP hD hS hA [false, true, true] [_, _] [_] rfl [0] rfl [0] (fun u_155 => [_]) (fun _ => rfl) (hs_upnd rfl) [false, true, true] (fun u_155 => [_, _, _]) (fun _ => rfl) (fun u_155 H locs hw_154 hP hD hS => ?_)
          have hw_154 : u_155.1 ≤ 7 ∧ (u_155.1 = 0 → u_149.1 = 0) ∧ ((0 : Int32) = 0 → ¬ u_155.1 = 0) ∧ u_155 = hNd u_149.1 u_149.2 mo_fr 0 4 := hw_154
          have hzhw_154 := hw_154.2.2.1 rfl
          refine lv_aload_n hx hb dX8_readLine_115 rfl (lv_at hl 1 rfl) ?_
          refine lv_dup hx hb dX8_readLine_116 rfl ?_
          refine va_get (D := D) (ci := 7) (v := .int mo_toldLines) (C := RX8) (T := TX8) (N := 32) hx hb hts hiX8 hown hK hP 0 rfl rfl 8 (Nat.le_of_ble_eq_true rfl) fl57 (fun _ h9 => h9) rfl dX8_readLine_117 ?_
          refine lv_iconst (v := 1) hx hb dX8_readLine_120 hki_1 ?_
          refine lv_iload_n hx hb dX8_readLine_121 rfl (lv_at hl 0 rfl) ?_
          refine lv_ishl hx hb dX8_readLine_122 ?_
          refine hs_topi 64 (by first | rfl | decide +kernel) ?_
          refine lv_ior hx hb dX8_readLine_123 ?_
          refine va_put (D := D) (ci := 7) (v := .int (mo_toldLines ||| 64)) (ty := .int) (C := RX8) (T := TX8) (N := 32) hx hb hts hiX8 tyX8 tyX8_ok nmX8 hown hK hP hD hS 0 rfl rfl 8 (Nat.le_of_ble_eq_true rfl) fl57 (fun _ h9 => h9) rfl (by decide +kernel) rfl rfl (Nat.le_of_ble_eq_true rfl) dX8_readLine_124 (fun H locs hP hD hS => ?_)
          have hP : va_P D vwCl [oq7 mo mo_st mo_at mo_isKept (nI mo_pe) (nI mo_hm) mo_draft (nI mo_dp) (nI mo_dh) (mo_toldLines ||| 64) mo_highest mo_tape (nI mo_tl) (nI mo_ps) (nI mo_fr) mo_sort mo_value (nI (u_155.1)) u_155.2 mo_row mo_orderMany (nI mo_fo) mo_lightest mo_heaviest mo_before mo_justSum mo_toldSum mo_allWays mo_lanes mo_sizes mo_cells mo_torn mo_had, _, _] H := hP
          have hD : va_D A [oq7 mo mo_st mo_at mo_isKept (nI mo_pe) (nI mo_hm) mo_draft (nI mo_dp) (nI mo_dh) (mo_toldLines ||| 64) mo_highest mo_tape (nI mo_tl) (nI mo_ps) (nI mo_fr) mo_sort mo_value (nI (u_155.1)) u_155.2 mo_row mo_orderMany (nI mo_fo) mo_lightest mo_heaviest mo_before mo_justSum mo_toldSum mo_allWays mo_lanes mo_sizes mo_cells mo_torn mo_had, _, _] := hD
          exact kj127_0 (6, mo_toldLines ||| 64, u_155.1, u_155.2) (by (try dsimp only); exact ⟨by omega, fun h => absurd h hzhw_154, fun _ => by rw [hLN, ck_tn (ln := 5) (by decide) ((told_bit ta hta 1 (by decide)).mpr (by rw [← htl]; exact c_152))]; exact ⟨(show ¬ (4 : Int32) = 0 from by decide), (by rw [hw_154.2.2.2, hNd, if_pos ⟨rfl, hzhw_148⟩])⟩⟩) _ _ _ hP hD hS (lv_sub hl [0, 1] rfl)
        · refine lv_iconst (v := 1) hx hb dX8_readLine_106 hki_1 ?_
          refine lv_goto (tgt := 111) hx hb dX8_readLine_107 rfl ?_
          refine lv_iconst (v := 4) hx hb dX8_readLine_111 hki_4 ?_
          refine hs_cvM (va_runV (As := [.int 1, .int 4]) (rest := []) ⟨hx, hb, hml, hown, hts⟩ (gr_needs l D k _ mo mo_st mo_at mo_isKept mo_pe mo_hm mo_draft mo_dp mo_dh mo_toldLines mo_highest mo_tape mo_tl mo_ps mo_fr mo_sort mo_value u_149.1 u_149.2 mo_row mo_orderMany mo_fo mo_lightest mo_heaviest mo_before mo_justSum mo_toldSum mo_allWays mo_lanes mo_sizes mo_cells mo_torn mo_had 1 4 (by omega) (by omega)) (cwV 2 hts gX8_readLine_X8_needs rfl rfl rfl ⟨rfl, hq_X8_needs⟩ ⟨Nat.le_of_ble_eq_true rfl, Nat.le_of_ble_eq_true rfl⟩) (hs_preV hK hN (hs_subP (w := [_]) hP [0] rfl) (hD.sub (ws' := [_]) [0] (hs_upnd rfl) rfl) (ci := 7) (q0 := 0) rfl rfl) rfl rfl hl.1 rfl (lv_room (Nat.le_of_ble_eq_true rfl)) dX8_readLine_112 ⟨Nat.le_of_ble_eq_true rfl, Nat.le_of_ble_eq_true rfl⟩) hP hD hS hA [false, true, true] [_, _] [_] rfl [0] rfl [0] (fun u_158 => [_]) (fun _ => rfl) (hs_upnd rfl) [false, true, true] (fun u_158 => [_, _, _]) (fun _ => rfl) (fun u_158 H locs hw_157 hP hD hS => ?_)
          have hw_157 : u_158.1 ≤ 7 ∧ (u_158.1 = 0 → u_149.1 = 0) ∧ ((1 : Int32) = 0 → ¬ u_158.1 = 0) ∧ u_158 = hNd u_149.1 u_149.2 mo_fr 1 4 := hw_157
          have hqhw_157 : u_158.1 = u_149.1 := by rw [hw_157.2.2.2, hNd, if_neg (fun z9 => absurd z9.1 (by decide))]
          have hzhw_157 : u_158.1 = 0 := hqhw_157.trans hzhw_148
          refine lv_aload_n hx hb dX8_readLine_115 rfl (lv_at hl 1 rfl) ?_
          refine lv_dup hx hb dX8_readLine_116 rfl ?_
          refine va_get (D := D) (ci := 7) (v := .int mo_toldLines) (C := RX8) (T := TX8) (N := 32) hx hb hts hiX8 hown hK hP 0 rfl rfl 8 (Nat.le_of_ble_eq_true rfl) fl57 (fun _ h9 => h9) rfl dX8_readLine_117 ?_
          refine lv_iconst (v := 1) hx hb dX8_readLine_120 hki_1 ?_
          refine lv_iload_n hx hb dX8_readLine_121 rfl (lv_at hl 0 rfl) ?_
          refine lv_ishl hx hb dX8_readLine_122 ?_
          refine hs_topi 64 (by first | rfl | decide +kernel) ?_
          refine lv_ior hx hb dX8_readLine_123 ?_
          refine va_put (D := D) (ci := 7) (v := .int (mo_toldLines ||| 64)) (ty := .int) (C := RX8) (T := TX8) (N := 32) hx hb hts hiX8 tyX8 tyX8_ok nmX8 hown hK hP hD hS 0 rfl rfl 8 (Nat.le_of_ble_eq_true rfl) fl57 (fun _ h9 => h9) rfl (by decide +kernel) rfl rfl (Nat.le_of_ble_eq_true rfl) dX8_readLine_124 (fun H locs hP hD hS => ?_)
          have hP : va_P D vwCl [oq7 mo mo_st mo_at mo_isKept (nI mo_pe) (nI mo_hm) mo_draft (nI mo_dp) (nI mo_dh) (mo_toldLines ||| 64) mo_highest mo_tape (nI mo_tl) (nI mo_ps) (nI mo_fr) mo_sort mo_value (nI (u_158.1)) u_158.2 mo_row mo_orderMany (nI mo_fo) mo_lightest mo_heaviest mo_before mo_justSum mo_toldSum mo_allWays mo_lanes mo_sizes mo_cells mo_torn mo_had, _, _] H := hP
          have hD : va_D A [oq7 mo mo_st mo_at mo_isKept (nI mo_pe) (nI mo_hm) mo_draft (nI mo_dp) (nI mo_dh) (mo_toldLines ||| 64) mo_highest mo_tape (nI mo_tl) (nI mo_ps) (nI mo_fr) mo_sort mo_value (nI (u_158.1)) u_158.2 mo_row mo_orderMany (nI mo_fo) mo_lightest mo_heaviest mo_before mo_justSum mo_toldSum mo_allWays mo_lanes mo_sizes mo_cells mo_torn mo_had, _, _] := hD
          exact kj127_0 (6, mo_toldLines ||| 64, u_158.1, u_158.2) (by (try dsimp only); exact ⟨by omega, fun _ => by rw [hLN, ck_ty (ln := 5) (by decide) (fun z9 => ((told_bit ta hta 1 (by decide)).mp z9) (by rw [← htl]; exact c_152))]; exact ⟨rfl, fun h9 => by first | omega | exact absurd h9 (by decide), fun h9 => by first | omega | exact absurd h9 (by decide), by decide, rfl, ⟨_, (told_or ta hta 1 (by decide)).2.2, (told_or ta hta 1 (by decide)).1, (by rw [htl, show (64 : Int32) = 1 <<< (nI (5 + 1) &&& 31) from by decide]; exact (told_or ta hta 1 (by decide)).2.1)⟩⟩, fun h => absurd hzhw_157 h⟩) _ _ _ hP hD hS (lv_sub hl [0, 1] rfl)
      · refine lv_istore_n (lv' := [(1, .int 7), (0, .ref mo)]) hx hb dX8_readLine_17 rfl hl (Nat.le_of_ble_eq_true rfl) rfl (fun ls hl => ?_)
        have hLN : cLn tf mo_sort mo_fr mo_ps = 6 := cLn_uq c_25 (by decide) hyw
        refine lv_aload_n hx hb dX8_readLine_18 rfl (lv_at hl 1 rfl) ?_
        refine lv_iload_n hx hb dX8_readLine_19 rfl (lv_at hl 0 rfl) ?_
        refine lv_bipush (v := (-4)) hx hb dX8_readLine_20 hkb_m4 ?_
        refine lv_icmp_eq (tgt := 29) hx hb dX8_readLine_22 rfl (fun c_159 => absurd c_159 (by decide)) (fun c_159 => ?_)
        refine lv_iconst (v := 1) hx hb dX8_readLine_25 hki_1 ?_
        refine lv_goto (tgt := 30) hx hb dX8_readLine_26 rfl ?_
        refine lv_iconst (v := 2) hx hb dX8_readLine_30 hki_2 ?_
        refine hs_cvM (va_runV (As := [.int 1, .int 2]) (rest := []) ⟨hx, hb, hml, hown, hts⟩ (gr_needs l D k _ mo mo_st mo_at mo_isKept mo_pe mo_hm mo_draft mo_dp mo_dh mo_toldLines mo_highest mo_tape mo_tl mo_ps mo_fr mo_sort mo_value mo_ft mo_wrongAt mo_row mo_orderMany mo_fo mo_lightest mo_heaviest mo_before mo_justSum mo_toldSum mo_allWays mo_lanes mo_sizes mo_cells mo_torn mo_had 1 2 (by omega) (by omega)) (cwV 2 hts gX8_readLine_X8_needs rfl rfl rfl ⟨rfl, hq_X8_needs⟩ ⟨Nat.le_of_ble_eq_true rfl, Nat.le_of_ble_eq_true rfl⟩) (hs_preV hK hN (hs_subP (w := [_]) hP [0] rfl) (hD.sub (ws' := [_]) [0] (hs_upnd rfl) rfl) (ci := 7) (q0 := 0) rfl rfl) rfl rfl hl.1 rfl (lv_room (Nat.le_of_ble_eq_true rfl)) dX8_readLine_31 ⟨Nat.le_of_ble_eq_true rfl, Nat.le_of_ble_eq_true rfl⟩) hP hD hS hA [false, true, true] [_, _] [_] rfl [0] rfl [0] (fun u_162 => [_]) (fun _ => rfl) (hs_upnd rfl) [false, true, true] (fun u_162 => [_, _, _]) (fun _ => rfl) (fun u_162 H locs hw_161 hP hD hS => ?_)
        have hw_161 : u_162.1 ≤ 7 ∧ (u_162.1 = 0 → mo_ft = 0) ∧ ((1 : Int32) = 0 → ¬ u_162.1 = 0) ∧ u_162 = hNd mo_ft mo_wrongAt mo_fr 1 2 := hw_161
        have hqhw_161 : u_162.1 = mo_ft := by rw [hw_161.2.2.2, hNd, if_neg (fun z9 => absurd z9.1 (by decide))]
        have hzhw_161 : u_162.1 = 0 := hqhw_161.trans hft0
        refine lv_aload_n hx hb dX8_readLine_34 rfl (lv_at hl 1 rfl) ?_
        refine lv_iload_n hx hb dX8_readLine_35 rfl (lv_at hl 0 rfl) ?_
        refine lv_iconst (v := 4) hx hb dX8_readLine_36 hki_4 ?_
        refine lv_icmp_ne (tgt := 60) hx hb dX8_readLine_37 rfl (fun c_163 => ?_) (fun c_163 => absurd c_163 (by decide))
        refine lv_iload_n hx hb dX8_readLine_60 rfl (lv_at hl 0 rfl) ?_
        refine lv_iconst (v := 4) hx hb dX8_readLine_61 hki_4 ?_
        refine lv_icmp_gt (tgt := 73) hx hb dX8_readLine_62 rfl (fun c_164 => ?_) (fun c_164 => absurd c_164 (by decide))
        refine lv_iconst (v := 1) hx hb dX8_readLine_73 hki_1 ?_
        refine lv_goto (tgt := 78) hx hb dX8_readLine_74 rfl ?_
        refine lv_iconst (v := 5) hx hb dX8_readLine_78 hki_5 ?_
        refine hs_cvM (va_runV (As := [.int 1, .int 5]) (rest := []) ⟨hx, hb, hml, hown, hts⟩ (gr_needs l D k _ mo mo_st mo_at mo_isKept mo_pe mo_hm mo_draft mo_dp mo_dh mo_toldLines mo_highest mo_tape mo_tl mo_ps mo_fr mo_sort mo_value u_162.1 u_162.2 mo_row mo_orderMany mo_fo mo_lightest mo_heaviest mo_before mo_justSum mo_toldSum mo_allWays mo_lanes mo_sizes mo_cells mo_torn mo_had 1 5 (by omega) (by omega)) (cwV 2 hts gX8_readLine_X8_needs rfl rfl rfl ⟨rfl, hq_X8_needs⟩ ⟨Nat.le_of_ble_eq_true rfl, Nat.le_of_ble_eq_true rfl⟩) (hs_preV hK hN (hs_subP (w := [_]) hP [0] rfl) (hD.sub (ws' := [_]) [0] (hs_upnd rfl) rfl) (ci := 7) (q0 := 0) rfl rfl) rfl rfl hl.1 rfl (lv_room (Nat.le_of_ble_eq_true rfl)) dX8_readLine_79 ⟨Nat.le_of_ble_eq_true rfl, Nat.le_of_ble_eq_true rfl⟩) hP hD hS hA [false, true, true] [_, _] [_] rfl [0] rfl [0] (fun u_167 => [_]) (fun _ => rfl) (hs_upnd rfl) [false, true, true] (fun u_167 => [_, _, _]) (fun _ => rfl) (fun u_167 H locs hw_166 hP hD hS => ?_)
        have hw_166 : u_167.1 ≤ 7 ∧ (u_167.1 = 0 → u_162.1 = 0) ∧ ((1 : Int32) = 0 → ¬ u_167.1 = 0) ∧ u_167 = hNd u_162.1 u_162.2 mo_fr 1 5 := hw_166
        have hqhw_166 : u_167.1 = u_162.1 := by rw [hw_166.2.2.2, hNd, if_neg (fun z9 => absurd z9.1 (by decide))]
        have hzhw_166 : u_167.1 = 0 := hqhw_166.trans hzhw_161
        refine lv_aload_n hx hb dX8_readLine_82 rfl (lv_at hl 1 rfl) ?_
        refine va_get (D := D) (ci := 7) (v := .int (nI (u_167.1))) (C := RX8) (T := TX8) (N := 32) hx hb hts hiX8 hown hK hP 0 rfl rfl 16 (Nat.le_of_ble_eq_true rfl) fl78 (fun _ h9 => h9) rfl dX8_readLine_83 ?_
        refine lv_if_ne (tgt := 127) hx hb dX8_readLine_86 rfl (fun c_168 => absurd ((nI_eq (a := (u_167.1)) (b := 0) (by omega) (by omega)).mpr hzhw_166) c_168) (fun c_168 => ?_)
        refine lv_iload_n hx hb dX8_readLine_89 rfl (lv_at hl 0 rfl) ?_
        refine lv_iconst (v := 5) hx hb dX8_readLine_90 hki_5 ?_
        refine lv_icmp_lt (tgt := 127) hx hb dX8_readLine_91 rfl (fun c_169 => absurd c_169 (by decide)) (fun c_169 => ?_)
        refine lv_aload_n hx hb dX8_readLine_94 rfl (lv_at hl 1 rfl) ?_
        refine lv_aload_n hx hb dX8_readLine_95 rfl (lv_at hl 1 rfl) ?_
        refine va_get (D := D) (ci := 7) (v := .int mo_toldLines) (C := RX8) (T := TX8) (N := 32) hx hb hts hiX8 hown hK hP 0 rfl rfl 8 (Nat.le_of_ble_eq_true rfl) fl57 (fun _ h9 => h9) rfl dX8_readLine_96 ?_
        refine lv_iload_n hx hb dX8_readLine_99 rfl (lv_at hl 0 rfl) ?_
        refine lv_ishr hx hb dX8_readLine_100 ?_
        refine lv_iconst (v := 1) hx hb dX8_readLine_101 hki_1 ?_
        refine lv_iand hx hb dX8_readLine_102 ?_
        refine lv_if_ne (tgt := 110) hx hb dX8_readLine_103 rfl (fun c_170 => ?_) (fun c_170 => ?_)
        · refine lv_iconst (v := 0) hx hb dX8_readLine_110 hki_0 ?_
          refine lv_iconst (v := 4) hx hb dX8_readLine_111 hki_4 ?_
          refine hs_cvM (va_runV (As := [.int 0, .int 4]) (rest := []) ⟨hx, hb, hml, hown, hts⟩ (gr_needs l D k _ mo mo_st mo_at mo_isKept mo_pe mo_hm mo_draft mo_dp mo_dh mo_toldLines mo_highest mo_tape mo_tl mo_ps mo_fr mo_sort mo_value u_167.1 u_167.2 mo_row mo_orderMany mo_fo mo_lightest mo_heaviest mo_before mo_justSum mo_toldSum mo_allWays mo_lanes mo_sizes mo_cells mo_torn mo_had 0 4 (by omega) (by omega)) (cwV 2 hts gX8_readLine_X8_needs rfl rfl rfl ⟨rfl, hq_X8_needs⟩ ⟨Nat.le_of_ble_eq_true rfl, Nat.le_of_ble_eq_true rfl⟩) (hs_preV hK hN (hs_subP (w := [_]) hP [0] rfl) (hD.sub (ws' := [_]) [0] (hs_upnd rfl) rfl) (ci := 7) (q0 := 0) rfl rfl) rfl rfl hl.1 rfl (lv_room (Nat.le_of_ble_eq_true rfl)) dX8_readLine_112 ⟨Nat.le_of_ble_eq_true rfl, Nat.le_of_ble_eq_true rfl⟩) hP hD hS hA [false, true, true] [_, _] [_] rfl [0] rfl [0] (fun u_173 => [_]) (fun _ => rfl) (hs_upnd rfl) [false, true, true] (fun u_173 => [_, _, _]) (fun _ => rfl) (fun u_173 H locs hw_172 hP hD hS => ?_)
          have hw_172 : u_173.1 ≤ 7 ∧ (u_173.1 = 0 → u_167.1 = 0) ∧ ((0 : Int32) = 0 → ¬ u_173.1 = 0) ∧ u_173 = hNd u_167.1 u_167.2 mo_fr 0 4 := hw_172
          have hzhw_172 := hw_172.2.2.1 rfl
          refine lv_aload_n hx hb dX8_readLine_115 rfl (lv_at hl 1 rfl) ?_
          refine lv_dup hx hb dX8_readLine_116 rfl ?_
          refine va_get (D := D) (ci := 7) (v := .int mo_toldLines) (C := RX8) (T := TX8) (N := 32) hx hb hts hiX8 hown hK hP 0 rfl rfl 8 (Nat.le_of_ble_eq_true rfl) fl57 (fun _ h9 => h9) rfl dX8_readLine_117 ?_
          refine lv_iconst (v := 1) hx hb dX8_readLine_120 hki_1 ?_
          refine lv_iload_n hx hb dX8_readLine_121 rfl (lv_at hl 0 rfl) ?_
          refine lv_ishl hx hb dX8_readLine_122 ?_
          refine hs_topi 128 (by first | rfl | decide +kernel) ?_
          refine lv_ior hx hb dX8_readLine_123 ?_
          refine va_put (D := D) (ci := 7) (v := .int (mo_toldLines ||| 128)) (ty := .int) (C := RX8) (T := TX8) (N := 32) hx hb hts hiX8 tyX8 tyX8_ok nmX8 hown hK hP hD hS 0 rfl rfl 8 (Nat.le_of_ble_eq_true rfl) fl57 (fun _ h9 => h9) rfl (by decide +kernel) rfl rfl (Nat.le_of_ble_eq_true rfl) dX8_readLine_124 (fun H locs hP hD hS => ?_)
          have hP : va_P D vwCl [oq7 mo mo_st mo_at mo_isKept (nI mo_pe) (nI mo_hm) mo_draft (nI mo_dp) (nI mo_dh) (mo_toldLines ||| 128) mo_highest mo_tape (nI mo_tl) (nI mo_ps) (nI mo_fr) mo_sort mo_value (nI (u_173.1)) u_173.2 mo_row mo_orderMany (nI mo_fo) mo_lightest mo_heaviest mo_before mo_justSum mo_toldSum mo_allWays mo_lanes mo_sizes mo_cells mo_torn mo_had, _, _] H := hP
          have hD : va_D A [oq7 mo mo_st mo_at mo_isKept (nI mo_pe) (nI mo_hm) mo_draft (nI mo_dp) (nI mo_dh) (mo_toldLines ||| 128) mo_highest mo_tape (nI mo_tl) (nI mo_ps) (nI mo_fr) mo_sort mo_value (nI (u_173.1)) u_173.2 mo_row mo_orderMany (nI mo_fo) mo_lightest mo_heaviest mo_before mo_justSum mo_toldSum mo_allWays mo_lanes mo_sizes mo_cells mo_torn mo_had, _, _] := hD
          exact kj127_0 (7, mo_toldLines ||| 128, u_173.1, u_173.2) (by (try dsimp only); exact ⟨by omega, fun h => absurd h hzhw_172, fun _ => by rw [hLN, ck_tn (ln := 6) (by decide) ((told_bit ta hta 2 (by decide)).mpr (by rw [← htl]; exact c_170))]; exact ⟨(show ¬ (4 : Int32) = 0 from by decide), (by rw [hw_172.2.2.2, hNd, if_pos ⟨rfl, hzhw_166⟩])⟩⟩) _ _ _ hP hD hS (lv_sub hl [0, 1] rfl)
        · refine lv_iconst (v := 1) hx hb dX8_readLine_106 hki_1 ?_
          refine lv_goto (tgt := 111) hx hb dX8_readLine_107 rfl ?_
          refine lv_iconst (v := 4) hx hb dX8_readLine_111 hki_4 ?_
          refine hs_cvM (va_runV (As := [.int 1, .int 4]) (rest := []) ⟨hx, hb, hml, hown, hts⟩ (gr_needs l D k _ mo mo_st mo_at mo_isKept mo_pe mo_hm mo_draft mo_dp mo_dh mo_toldLines mo_highest mo_tape mo_tl mo_ps mo_fr mo_sort mo_value u_167.1 u_167.2 mo_row mo_orderMany mo_fo mo_lightest mo_heaviest mo_before mo_justSum mo_toldSum mo_allWays mo_lanes mo_sizes mo_cells mo_torn mo_had 1 4 (by omega) (by omega)) (cwV 2 hts gX8_readLine_X8_needs rfl rfl rfl ⟨rfl, hq_X8_needs⟩ ⟨Nat.le_of_ble_eq_true rfl, Nat.le_of_ble_eq_true rfl⟩) (hs_preV hK hN (hs_subP (w := [_]) hP [0] rfl) (hD.sub (ws' := [_]) [0] (hs_upnd rfl) rfl) (ci := 7) (q0 := 0) rfl rfl) rfl rfl hl.1 rfl (lv_room (Nat.le_of_ble_eq_true rfl)) dX8_readLine_112 ⟨Nat.le_of_ble_eq_true rfl, Nat.le_of_ble_eq_true rfl⟩) hP hD hS hA [false, true, true] [_, _] [_] rfl [0] rfl [0] (fun u_176 => [_]) (fun _ => rfl) (hs_upnd rfl) [false, true, true] (fun u_176 => [_, _, _]) (fun _ => rfl) (fun u_176 H locs hw_175 hP hD hS => ?_)
          have hw_175 : u_176.1 ≤ 7 ∧ (u_176.1 = 0 → u_167.1 = 0) ∧ ((1 : Int32) = 0 → ¬ u_176.1 = 0) ∧ u_176 = hNd u_167.1 u_167.2 mo_fr 1 4 := hw_175
          have hqhw_175 : u_176.1 = u_167.1 := by rw [hw_175.2.2.2, hNd, if_neg (fun z9 => absurd z9.1 (by decide))]
          have hzhw_175 : u_176.1 = 0 := hqhw_175.trans hzhw_166
          refine lv_aload_n hx hb dX8_readLine_115 rfl (lv_at hl 1 rfl) ?_
          refine lv_dup hx hb dX8_readLine_116 rfl ?_
          refine va_get (D := D) (ci := 7) (v := .int mo_toldLines) (C := RX8) (T := TX8) (N := 32) hx hb hts hiX8 hown hK hP 0 rfl rfl 8 (Nat.le_of_ble_eq_true rfl) fl57 (fun _ h9 => h9) rfl dX8_readLine_117 ?_
          refine lv_iconst (v := 1) hx hb dX8_readLine_120 hki_1 ?_
          refine lv_iload_n hx hb dX8_readLine_121 rfl (lv_at hl 0 rfl) ?_
          refine lv_ishl hx hb dX8_readLine_122 ?_
          refine hs_topi 128 (by first | rfl | decide +kernel) ?_
          refine lv_ior hx hb dX8_readLine_123 ?_
          refine va_put (D := D) (ci := 7) (v := .int (mo_toldLines ||| 128)) (ty := .int) (C := RX8) (T := TX8) (N := 32) hx hb hts hiX8 tyX8 tyX8_ok nmX8 hown hK hP hD hS 0 rfl rfl 8 (Nat.le_of_ble_eq_true rfl) fl57 (fun _ h9 => h9) rfl (by decide +kernel) rfl rfl (Nat.le_of_ble_eq_true rfl) dX8_readLine_124 (fun H locs hP hD hS => ?_)
          have hP : va_P D vwCl [oq7 mo mo_st mo_at mo_isKept (nI mo_pe) (nI mo_hm) mo_draft (nI mo_dp) (nI mo_dh) (mo_toldLines ||| 128) mo_highest mo_tape (nI mo_tl) (nI mo_ps) (nI mo_fr) mo_sort mo_value (nI (u_176.1)) u_176.2 mo_row mo_orderMany (nI mo_fo) mo_lightest mo_heaviest mo_before mo_justSum mo_toldSum mo_allWays mo_lanes mo_sizes mo_cells mo_torn mo_had, _, _] H := hP
          have hD : va_D A [oq7 mo mo_st mo_at mo_isKept (nI mo_pe) (nI mo_hm) mo_draft (nI mo_dp) (nI mo_dh) (mo_toldLines ||| 128) mo_highest mo_tape (nI mo_tl) (nI mo_ps) (nI mo_fr) mo_sort mo_value (nI (u_176.1)) u_176.2 mo_row mo_orderMany (nI mo_fo) mo_lightest mo_heaviest mo_before mo_justSum mo_toldSum mo_allWays mo_lanes mo_sizes mo_cells mo_torn mo_had, _, _] := hD
          exact kj127_0 (7, mo_toldLines ||| 128, u_176.1, u_176.2) (by (try dsimp only); exact ⟨by omega, fun _ => by rw [hLN, ck_ty (ln := 6) (by decide) (fun z9 => ((told_bit ta hta 2 (by decide)).mp z9) (by rw [← htl]; exact c_170))]; exact ⟨rfl, fun h9 => by first | omega | exact absurd h9 (by decide), fun h9 => by first | omega | exact absurd h9 (by decide), by decide, rfl, ⟨_, (told_or ta hta 2 (by decide)).2.2, (told_or ta hta 2 (by decide)).1, (by rw [htl, show (128 : Int32) = 1 <<< (nI (5 + 2) &&& 31) from by decide]; exact (told_or ta hta 2 (by decide)).2.1)⟩⟩, fun h => absurd hzhw_175 h⟩) _ _ _ hP hD hS (lv_sub hl [0, 1] rfl)
      · refine lv_istore_n (lv' := [(1, .int 8), (0, .ref mo)]) hx hb dX8_readLine_17 rfl hl (Nat.le_of_ble_eq_true rfl) rfl (fun ls hl => ?_)
        have hLN : cLn tf mo_sort mo_fr mo_ps = 7 := cLn_uq c_25 (by decide) hyw
        refine lv_aload_n hx hb dX8_readLine_18 rfl (lv_at hl 1 rfl) ?_
        refine lv_iload_n hx hb dX8_readLine_19 rfl (lv_at hl 0 rfl) ?_
        refine lv_bipush (v := (-4)) hx hb dX8_readLine_20 hkb_m4 ?_
        refine lv_icmp_eq (tgt := 29) hx hb dX8_readLine_22 rfl (fun c_177 => absurd c_177 (by decide)) (fun c_177 => ?_)
        refine lv_iconst (v := 1) hx hb dX8_readLine_25 hki_1 ?_
        refine lv_goto (tgt := 30) hx hb dX8_readLine_26 rfl ?_
        refine lv_iconst (v := 2) hx hb dX8_readLine_30 hki_2 ?_
        refine hs_cvM (va_runV (As := [.int 1, .int 2]) (rest := []) ⟨hx, hb, hml, hown, hts⟩ (gr_needs l D k _ mo mo_st mo_at mo_isKept mo_pe mo_hm mo_draft mo_dp mo_dh mo_toldLines mo_highest mo_tape mo_tl mo_ps mo_fr mo_sort mo_value mo_ft mo_wrongAt mo_row mo_orderMany mo_fo mo_lightest mo_heaviest mo_before mo_justSum mo_toldSum mo_allWays mo_lanes mo_sizes mo_cells mo_torn mo_had 1 2 (by omega) (by omega)) (cwV 2 hts gX8_readLine_X8_needs rfl rfl rfl ⟨rfl, hq_X8_needs⟩ ⟨Nat.le_of_ble_eq_true rfl, Nat.le_of_ble_eq_true rfl⟩) (hs_preV hK hN (hs_subP (w := [_]) hP [0] rfl) (hD.sub (ws' := [_]) [0] (hs_upnd rfl) rfl) (ci := 7) (q0 := 0) rfl rfl) rfl rfl hl.1 rfl (lv_room (Nat.le_of_ble_eq_true rfl)) dX8_readLine_31 ⟨Nat.le_of_ble_eq_true rfl, Nat.le_of_ble_eq_true rfl⟩) hP hD hS hA [false, true, true] [_, _] [_] rfl [0] rfl [0] (fun u_180 => [_]) (fun _ => rfl) (hs_upnd rfl) [false, true, true] (fun u_180 => [_, _, _]) (fun _ => rfl) (fun u_180 H locs hw_179 hP hD hS => ?_)
        have hw_179 : u_180.1 ≤ 7 ∧ (u_180.1 = 0 → mo_ft = 0) ∧ ((1 : Int32) = 0 → ¬ u_180.1 = 0) ∧ u_180 = hNd mo_ft mo_wrongAt mo_fr 1 2 := hw_179
        have hqhw_179 : u_180.1 = mo_ft := by rw [hw_179.2.2.2, hNd, if_neg (fun z9 => absurd z9.1 (by decide))]
        have hzhw_179 : u_180.1 = 0 := hqhw_179.trans hft0
        refine lv_aload_n hx hb dX8_readLine_34 rfl (lv_at hl 1 rfl) ?_
        refine lv_iload_n hx hb dX8_readLine_35 rfl (lv_at hl 0 rfl) ?_
        refine lv_iconst (v := 4) hx hb dX8_readLine_36 hki_4 ?_
        refine lv_icmp_ne (tgt := 60) hx hb dX8_readLine_37 rfl (fun c_181 => ?_) (fun c_181 => absurd c_181 (by decide))
        refine lv_iload_n hx hb dX8_readLine_60 rfl (lv_at hl 0 rfl) ?_
        refine lv_iconst (v := 4) hx hb dX8_readLine_61 hki_4 ?_
        refine lv_icmp_gt (tgt := 73) hx hb dX8_readLine_62 rfl (fun c_182 => ?_) (fun c_182 => absurd c_182 (by decide))
        refine lv_iconst (v := 1) hx hb dX8_readLine_73 hki_1 ?_
        refine lv_goto (tgt := 78) hx hb dX8_readLine_74 rfl ?_
        refine lv_iconst (v := 5) hx hb dX8_readLine_78 hki_5 ?_
        refine hs_cvM (va_runV (As := [.int 1, .int 5]) (rest := []) ⟨hx, hb, hml, hown, hts⟩ (gr_needs l D k _ mo mo_st mo_at mo_isKept mo_pe mo_hm mo_draft mo_dp mo_dh mo_toldLines mo_highest mo_tape mo_tl mo_ps mo_fr mo_sort mo_value u_180.1 u_180.2 mo_row mo_orderMany mo_fo mo_lightest mo_heaviest mo_before mo_justSum mo_toldSum mo_allWays mo_lanes mo_sizes mo_cells mo_torn mo_had 1 5 (by omega) (by omega)) (cwV 2 hts gX8_readLine_X8_needs rfl rfl rfl ⟨rfl, hq_X8_needs⟩ ⟨Nat.le_of_ble_eq_true rfl, Nat.le_of_ble_eq_true rfl⟩) (hs_preV hK hN (hs_subP (w := [_]) hP [0] rfl) (hD.sub (ws' := [_]) [0] (hs_upnd rfl) rfl) (ci := 7) (q0 := 0) rfl rfl) rfl rfl hl.1 rfl (lv_room (Nat.le_of_ble_eq_true rfl)) dX8_readLine_79 ⟨Nat.le_of_ble_eq_true rfl, Nat.le_of_ble_eq_true rfl⟩) hP hD hS hA [false, true, true] [_, _] [_] rfl [0] rfl [0] (fun u_185 => [_]) (fun _ => rfl) (hs_upnd rfl) [false, true, true] (fun u_185 => [_, _, _]) (fun _ => rfl) (fun u_185 H locs hw_184 hP hD hS => ?_)
        have hw_184 : u_185.1 ≤ 7 ∧ (u_185.1 = 0 → u_180.1 = 0) ∧ ((1 : Int32) = 0 → ¬ u_185.1 = 0) ∧ u_185 = hNd u_180.1 u_180.2 mo_fr 1 5 := hw_184
        have hqhw_184 : u_185.1 = u_180.1 := by rw [hw_184.2.2.2, hNd, if_neg (fun z9 => absurd z9.1 (by decide))]
        have hzhw_184 : u_185.1 = 0 := hqhw_184.trans hzhw_179
        refine lv_aload_n hx hb dX8_readLine_82 rfl (lv_at hl 1 rfl) ?_
        refine va_get (D := D) (ci := 7) (v := .int (nI (u_185.1))) (C := RX8) (T := TX8) (N := 32) hx hb hts hiX8 hown hK hP 0 rfl rfl 16 (Nat.le_of_ble_eq_true rfl) fl78 (fun _ h9 => h9) rfl dX8_readLine_83 ?_
        refine lv_if_ne (tgt := 127) hx hb dX8_readLine_86 rfl (fun c_186 => absurd ((nI_eq (a := (u_185.1)) (b := 0) (by omega) (by omega)).mpr hzhw_184) c_186) (fun c_186 => ?_)
        refine lv_iload_n hx hb dX8_readLine_89 rfl (lv_at hl 0 rfl) ?_
        refine lv_iconst (v := 5) hx hb dX8_readLine_90 hki_5 ?_
        refine lv_icmp_lt (tgt := 127) hx hb dX8_readLine_91 rfl (fun c_187 => absurd c_187 (by decide)) (fun c_187 => ?_)
        refine lv_aload_n hx hb dX8_readLine_94 rfl (lv_at hl 1 rfl) ?_
        refine lv_aload_n hx hb dX8_readLine_95 rfl (lv_at hl 1 rfl) ?_
        refine va_get (D := D) (ci := 7) (v := .int mo_toldLines) (C := RX8) (T := TX8) (N := 32) hx hb hts hiX8 hown hK hP 0 rfl rfl 8 (Nat.le_of_ble_eq_true rfl) fl57 (fun _ h9 => h9) rfl dX8_readLine_96 ?_
        refine lv_iload_n hx hb dX8_readLine_99 rfl (lv_at hl 0 rfl) ?_
        refine lv_ishr hx hb dX8_readLine_100 ?_
        refine lv_iconst (v := 1) hx hb dX8_readLine_101 hki_1 ?_
        refine lv_iand hx hb dX8_readLine_102 ?_
        refine lv_if_ne (tgt := 110) hx hb dX8_readLine_103 rfl (fun c_188 => ?_) (fun c_188 => ?_)
        · refine lv_iconst (v := 0) hx hb dX8_readLine_110 hki_0 ?_
          refine lv_iconst (v := 4) hx hb dX8_readLine_111 hki_4 ?_
          refine hs_cvM (va_runV (As := [.int 0, .int 4]) (rest := []) ⟨hx, hb, hml, hown, hts⟩ (gr_needs l D k _ mo mo_st mo_at mo_isKept mo_pe mo_hm mo_draft mo_dp mo_dh mo_toldLines mo_highest mo_tape mo_tl mo_ps mo_fr mo_sort mo_value u_185.1 u_185.2 mo_row mo_orderMany mo_fo mo_lightest mo_heaviest mo_before mo_justSum mo_toldSum mo_allWays mo_lanes mo_sizes mo_cells mo_torn mo_had 0 4 (by omega) (by omega)) (cwV 2 hts gX8_readLine_X8_needs rfl rfl rfl ⟨rfl, hq_X8_needs⟩ ⟨Nat.le_of_ble_eq_true rfl, Nat.le_of_ble_eq_true rfl⟩) (hs_preV hK hN (hs_subP (w := [_]) hP [0] rfl) (hD.sub (ws' := [_]) [0] (hs_upnd rfl) rfl) (ci := 7) (q0 := 0) rfl rfl) rfl rfl hl.1 rfl (lv_room (Nat.le_of_ble_eq_true rfl)) dX8_readLine_112 ⟨Nat.le_of_ble_eq_true rfl, Nat.le_of_ble_eq_true rfl⟩) hP hD hS hA [false, true, true] [_, _] [_] rfl [0] rfl [0] (fun u_191 => [_]) (fun _ => rfl) (hs_upnd rfl) [false, true, true] (fun u_191 => [_, _, _]) (fun _ => rfl) (fun u_191 H locs hw_190 hP hD hS => ?_)
          have hw_190 : u_191.1 ≤ 7 ∧ (u_191.1 = 0 → u_185.1 = 0) ∧ ((0 : Int32) = 0 → ¬ u_191.1 = 0) ∧ u_191 = hNd u_185.1 u_185.2 mo_fr 0 4 := hw_190
          have hzhw_190 := hw_190.2.2.1 rfl
          refine lv_aload_n hx hb dX8_readLine_115 rfl (lv_at hl 1 rfl) ?_
          refine lv_dup hx hb dX8_readLine_116 rfl ?_
          refine va_get (D := D) (ci := 7) (v := .int mo_toldLines) (C := RX8) (T := TX8) (N := 32) hx hb hts hiX8 hown hK hP 0 rfl rfl 8 (Nat.le_of_ble_eq_true rfl) fl57 (fun _ h9 => h9) rfl dX8_readLine_117 ?_
          refine lv_iconst (v := 1) hx hb dX8_readLine_120 hki_1 ?_
          refine lv_iload_n hx hb dX8_readLine_121 rfl (lv_at hl 0 rfl) ?_
          refine lv_ishl hx hb dX8_readLine_122 ?_
          refine hs_topi 256 (by first | rfl | decide +kernel) ?_
          refine lv_ior hx hb dX8_readLine_123 ?_
          refine va_put (D := D) (ci := 7) (v := .int (mo_toldLines ||| 256)) (ty := .int) (C := RX8) (T := TX8) (N := 32) hx hb hts hiX8 tyX8 tyX8_ok nmX8 hown hK hP hD hS 0 rfl rfl 8 (Nat.le_of_ble_eq_true rfl) fl57 (fun _ h9 => h9) rfl (by decide +kernel) rfl rfl (Nat.le_of_ble_eq_true rfl) dX8_readLine_124 (fun H locs hP hD hS => ?_)
          have hP : va_P D vwCl [oq7 mo mo_st mo_at mo_isKept (nI mo_pe) (nI mo_hm) mo_draft (nI mo_dp) (nI mo_dh) (mo_toldLines ||| 256) mo_highest mo_tape (nI mo_tl) (nI mo_ps) (nI mo_fr) mo_sort mo_value (nI (u_191.1)) u_191.2 mo_row mo_orderMany (nI mo_fo) mo_lightest mo_heaviest mo_before mo_justSum mo_toldSum mo_allWays mo_lanes mo_sizes mo_cells mo_torn mo_had, _, _] H := hP
          have hD : va_D A [oq7 mo mo_st mo_at mo_isKept (nI mo_pe) (nI mo_hm) mo_draft (nI mo_dp) (nI mo_dh) (mo_toldLines ||| 256) mo_highest mo_tape (nI mo_tl) (nI mo_ps) (nI mo_fr) mo_sort mo_value (nI (u_191.1)) u_191.2 mo_row mo_orderMany (nI mo_fo) mo_lightest mo_heaviest mo_before mo_justSum mo_toldSum mo_allWays mo_lanes mo_sizes mo_cells mo_torn mo_had, _, _] := hD
          exact kj127_0 (8, mo_toldLines ||| 256, u_191.1, u_191.2) (by (try dsimp only); exact ⟨by omega, fun h => absurd h hzhw_190, fun _ => by rw [hLN, ck_tn (ln := 7) (by decide) ((told_bit ta hta 3 (by decide)).mpr (by rw [← htl]; exact c_188))]; exact ⟨(show ¬ (4 : Int32) = 0 from by decide), (by rw [hw_190.2.2.2, hNd, if_pos ⟨rfl, hzhw_184⟩])⟩⟩) _ _ _ hP hD hS (lv_sub hl [0, 1] rfl)
        · refine lv_iconst (v := 1) hx hb dX8_readLine_106 hki_1 ?_
          refine lv_goto (tgt := 111) hx hb dX8_readLine_107 rfl ?_
          refine lv_iconst (v := 4) hx hb dX8_readLine_111 hki_4 ?_
          refine hs_cvM (va_runV (As := [.int 1, .int 4]) (rest := []) ⟨hx, hb, hml, hown, hts⟩ (gr_needs l D k _ mo mo_st mo_at mo_isKept mo_pe mo_hm mo_draft mo_dp mo_dh mo_toldLines mo_highest mo_tape mo_tl mo_ps mo_fr mo_sort mo_value u_185.1 u_185.2 mo_row mo_orderMany mo_fo mo_lightest mo_heaviest mo_before mo_justSum mo_toldSum mo_allWays mo_lanes mo_sizes mo_cells mo_torn mo_had 1 4 (by omega) (by omega)) (cwV 2 hts gX8_readLine_X8_needs rfl rfl rfl ⟨rfl, hq_X8_needs⟩ ⟨Nat.le_of_ble_eq_true rfl, Nat.le_of_ble_eq_true rfl⟩) (hs_preV hK hN (hs_subP (w := [_]) hP [0] rfl) (hD.sub (ws' := [_]) [0] (hs_upnd rfl) rfl) (ci := 7) (q0 := 0) rfl rfl) rfl rfl hl.1 rfl (lv_room (Nat.le_of_ble_eq_true rfl)) dX8_readLine_112 ⟨Nat.le_of_ble_eq_true rfl, Nat.le_of_ble_eq_true rfl⟩) hP hD hS hA [false, true, true] [_, _] [_] rfl [0] rfl [0] (fun u_194 => [_]) (fun _ => rfl) (hs_upnd rfl) [false, true, true] (fun u_194 => [_, _, _]) (fun _ => rfl) (fun u_194 H locs hw_193 hP hD hS => ?_)
          have hw_193 : u_194.1 ≤ 7 ∧ (u_194.1 = 0 → u_185.1 = 0) ∧ ((1 : Int32) = 0 → ¬ u_194.1 = 0) ∧ u_194 = hNd u_185.1 u_185.2 mo_fr 1 4 := hw_193
          have hqhw_193 : u_194.1 = u_185.1 := by rw [hw_193.2.2.2, hNd, if_neg (fun z9 => absurd z9.1 (by decide))]
          have hzhw_193 : u_194.1 = 0 := hqhw_193.trans hzhw_184
          refine lv_aload_n hx hb dX8_readLine_115 rfl (lv_at hl 1 rfl) ?_
          refine lv_dup hx hb dX8_readLine_116 rfl ?_
          refine va_get (D := D) (ci := 7) (v := .int mo_toldLines) (C := RX8) (T := TX8) (N := 32) hx hb hts hiX8 hown hK hP 0 rfl rfl 8 (Nat.le_of_ble_eq_true rfl) fl57 (fun _ h9 => h9) rfl dX8_readLine_117 ?_
          refine lv_iconst (v := 1) hx hb dX8_readLine_120 hki_1 ?_
          refine lv_iload_n hx hb dX8_readLine_121 rfl (lv_at hl 0 rfl) ?_
          refine lv_ishl hx hb dX8_readLine_122 ?_
          refine hs_topi 256 (by first | rfl | decide +kernel) ?_
          refine lv_ior hx hb dX8_readLine_123 ?_
          refine va_put (D := D) (ci := 7) (v := .int (mo_toldLines ||| 256)) (ty := .int) (C := RX8) (T := TX8) (N := 32) hx hb hts hiX8 tyX8 tyX8_ok nmX8 hown hK hP hD hS 0 rfl rfl 8 (Nat.le_of_ble_eq_true rfl) fl57 (fun _ h9 => h9) rfl (by decide +kernel) rfl rfl (Nat.le_of_ble_eq_true rfl) dX8_readLine_124 (fun H locs hP hD hS => ?_)
          have hP : va_P D vwCl [oq7 mo mo_st mo_at mo_isKept (nI mo_pe) (nI mo_hm) mo_draft (nI mo_dp) (nI mo_dh) (mo_toldLines ||| 256) mo_highest mo_tape (nI mo_tl) (nI mo_ps) (nI mo_fr) mo_sort mo_value (nI (u_194.1)) u_194.2 mo_row mo_orderMany (nI mo_fo) mo_lightest mo_heaviest mo_before mo_justSum mo_toldSum mo_allWays mo_lanes mo_sizes mo_cells mo_torn mo_had, _, _] H := hP
          have hD : va_D A [oq7 mo mo_st mo_at mo_isKept (nI mo_pe) (nI mo_hm) mo_draft (nI mo_dp) (nI mo_dh) (mo_toldLines ||| 256) mo_highest mo_tape (nI mo_tl) (nI mo_ps) (nI mo_fr) mo_sort mo_value (nI (u_194.1)) u_194.2 mo_row mo_orderMany (nI mo_fo) mo_lightest mo_heaviest mo_before mo_justSum mo_toldSum mo_allWays mo_lanes mo_sizes mo_cells mo_torn mo_had, _, _] := hD
          exact kj127_0 (8, mo_toldLines ||| 256, u_194.1, u_194.2) (by (try dsimp only); exact ⟨by omega, fun _ => by rw [hLN, ck_ty (ln := 7) (by decide) (fun z9 => ((told_bit ta hta 3 (by decide)).mp z9) (by rw [← htl]; exact c_188))]; exact ⟨rfl, fun h9 => by first | omega | exact absurd h9 (by decide), fun h9 => by first | omega | exact absurd h9 (by decide), by decide, rfl, ⟨_, (told_or ta hta 3 (by decide)).2.2, (told_or ta hta 3 (by decide)).1, (by rw [htl, show (256 : Int32) = 1 <<< (nI (5 + 3) &&& 31) from by decide]; exact (told_or ta hta 3 (by decide)).2.1)⟩⟩, fun h => absurd hzhw_193 h⟩) _ _ _ hP hD hS (lv_sub hl [0, 1] rfl)
      · refine lv_istore_n (lv' := [(1, .int 4), (0, .ref mo)]) hx hb dX8_readLine_17 rfl hl (Nat.le_of_ble_eq_true rfl) rfl (fun ls hl => ?_)
        have hLN : cLn tf mo_sort mo_fr mo_ps = 8 := cLn_uq c_25 (by decide) hyw
        refine lv_aload_n hx hb dX8_readLine_18 rfl (lv_at hl 1 rfl) ?_
        refine lv_iload_n hx hb dX8_readLine_19 rfl (lv_at hl 0 rfl) ?_
        refine lv_bipush (v := (-4)) hx hb dX8_readLine_20 hkb_m4 ?_
        refine lv_icmp_eq (tgt := 29) hx hb dX8_readLine_22 rfl (fun c_195 => absurd c_195 (by decide)) (fun c_195 => ?_)
        refine lv_iconst (v := 1) hx hb dX8_readLine_25 hki_1 ?_
        refine lv_goto (tgt := 30) hx hb dX8_readLine_26 rfl ?_
        refine lv_iconst (v := 2) hx hb dX8_readLine_30 hki_2 ?_
        refine hs_cvM (va_runV (As := [.int 1, .int 2]) (rest := []) ⟨hx, hb, hml, hown, hts⟩ (gr_needs l D k _ mo mo_st mo_at mo_isKept mo_pe mo_hm mo_draft mo_dp mo_dh mo_toldLines mo_highest mo_tape mo_tl mo_ps mo_fr mo_sort mo_value mo_ft mo_wrongAt mo_row mo_orderMany mo_fo mo_lightest mo_heaviest mo_before mo_justSum mo_toldSum mo_allWays mo_lanes mo_sizes mo_cells mo_torn mo_had 1 2 (by omega) (by omega)) (cwV 2 hts gX8_readLine_X8_needs rfl rfl rfl ⟨rfl, hq_X8_needs⟩ ⟨Nat.le_of_ble_eq_true rfl, Nat.le_of_ble_eq_true rfl⟩) (hs_preV hK hN (hs_subP (w := [_]) hP [0] rfl) (hD.sub (ws' := [_]) [0] (hs_upnd rfl) rfl) (ci := 7) (q0 := 0) rfl rfl) rfl rfl hl.1 rfl (lv_room (Nat.le_of_ble_eq_true rfl)) dX8_readLine_31 ⟨Nat.le_of_ble_eq_true rfl, Nat.le_of_ble_eq_true rfl⟩) hP hD hS hA [false, true, true] [_, _] [_] rfl [0] rfl [0] (fun u_198 => [_]) (fun _ => rfl) (hs_upnd rfl) [false, true, true] (fun u_198 => [_, _, _]) (fun _ => rfl) (fun u_198 H locs hw_197 hP hD hS => ?_)
        have hw_197 : u_198.1 ≤ 7 ∧ (u_198.1 = 0 → mo_ft = 0) ∧ ((1 : Int32) = 0 → ¬ u_198.1 = 0) ∧ u_198 = hNd mo_ft mo_wrongAt mo_fr 1 2 := hw_197
        have hqhw_197 : u_198.1 = mo_ft := by rw [hw_197.2.2.2, hNd, if_neg (fun z9 => absurd z9.1 (by decide))]
        have hzhw_197 : u_198.1 = 0 := hqhw_197.trans hft0
        refine lv_aload_n hx hb dX8_readLine_34 rfl (lv_at hl 1 rfl) ?_
        refine lv_iload_n hx hb dX8_readLine_35 rfl (lv_at hl 0 rfl) ?_
        refine lv_iconst (v := 4) hx hb dX8_readLine_36 hki_4 ?_
        refine lv_icmp_ne (tgt := 60) hx hb dX8_readLine_37 rfl (fun c_199 => absurd c_199 (by decide)) (fun c_199 => ?_)
        refine lv_aload_n hx hb dX8_readLine_40 rfl (lv_at hl 1 rfl) ?_
        refine va_get (D := D) (ci := 7) (v := .ref mo_draft) (C := RX8) (T := TX8) (N := 32) hx hb hts hiX8 hown hK hP 0 rfl rfl 5 (Nat.le_of_ble_eq_true rfl) fl20 (fun _ h9 => h9) rfl dX8_readLine_41 ?_
        refine lv_bipush (v := 16) hx hb dX8_readLine_44 hkb_16 ?_
        refine va_iald hx hb hK hP 2 0 rfl rfl (hs_in (by decide)) dX8_readLine_46 ?_
        refine hs_topi (nI (d_N 3)) hrd.2.2.2.2.1.1 ?_
        refine lv_bipush (v := 8) hx hb dX8_readLine_47 hkb_8 ?_
        refine lv_icmp_ge (tgt := 56) hx hb dX8_readLine_49 rfl (fun c_200 => ?_) (fun c_200 => ?_)
        · have nc_200 : 8 ≤ (d_N 3) := (nI_leI (a := 8) (b := (d_N 3)) (by omega) (by omega)).mp c_200
          refine lv_iconst (v := 0) hx hb dX8_readLine_56 hki_0 ?_
          refine lv_goto (tgt := 78) hx hb dX8_readLine_57 rfl ?_
          refine lv_iconst (v := 5) hx hb dX8_readLine_78 hki_5 ?_
          refine hs_cvM (va_runV (As := [.int 0, .int 5]) (rest := []) ⟨hx, hb, hml, hown, hts⟩ (gr_needs l D k _ mo mo_st mo_at mo_isKept mo_pe mo_hm mo_draft mo_dp mo_dh mo_toldLines mo_highest mo_tape mo_tl mo_ps mo_fr mo_sort mo_value u_198.1 u_198.2 mo_row mo_orderMany mo_fo mo_lightest mo_heaviest mo_before mo_justSum mo_toldSum mo_allWays mo_lanes mo_sizes mo_cells mo_torn mo_had 0 5 (by omega) (by omega)) (cwV 2 hts gX8_readLine_X8_needs rfl rfl rfl ⟨rfl, hq_X8_needs⟩ ⟨Nat.le_of_ble_eq_true rfl, Nat.le_of_ble_eq_true rfl⟩) (hs_preV hK hN (hs_subP (w := [_]) hP [0] rfl) (hD.sub (ws' := [_]) [0] (hs_upnd rfl) rfl) (ci := 7) (q0 := 0) rfl rfl) rfl rfl hl.1 rfl (lv_room (Nat.le_of_ble_eq_true rfl)) dX8_readLine_79 ⟨Nat.le_of_ble_eq_true rfl, Nat.le_of_ble_eq_true rfl⟩) hP hD hS hA [false, true, true] [_, _] [_] rfl [0] rfl [0] (fun u_203 => [_]) (fun _ => rfl) (hs_upnd rfl) [false, true, true] (fun u_203 => [_, _, _]) (fun _ => rfl) (fun u_203 H locs hw_202 hP hD hS => ?_)
          have hw_202 : u_203.1 ≤ 7 ∧ (u_203.1 = 0 → u_198.1 = 0) ∧ ((0 : Int32) = 0 → ¬ u_203.1 = 0) ∧ u_203 = hNd u_198.1 u_198.2 mo_fr 0 5 := hw_202
          have hzhw_202 := hw_202.2.2.1 rfl
          refine lv_aload_n hx hb dX8_readLine_82 rfl (lv_at hl 1 rfl) ?_
          refine va_get (D := D) (ci := 7) (v := .int (nI (u_203.1))) (C := RX8) (T := TX8) (N := 32) hx hb hts hiX8 hown hK hP 0 rfl rfl 16 (Nat.le_of_ble_eq_true rfl) fl78 (fun _ h9 => h9) rfl dX8_readLine_83 ?_
          refine lv_if_ne (tgt := 127) hx hb dX8_readLine_86 rfl (fun c_204 => ?_) (fun c_204 => absurd ((nI_eq (a := (u_203.1)) (b := 0) (by omega) (by omega)).mp c_204) hzhw_202)
          exact kj127_0 (4, mo_toldLines, u_203.1, u_203.2) (by (try dsimp only); exact ⟨by omega, fun h => absurd h hzhw_202, fun _ => by rw [hLN, ck_8n (by omega)]; exact ⟨(show ¬ (5 : Int32) = 0 from by decide), (by rw [hw_202.2.2.2, hNd, if_pos ⟨rfl, hzhw_197⟩])⟩⟩) _ _ _ hP hD hS (lv_sub hl [0, 1] rfl)
        · have nc_200 : ¬ 8 ≤ (d_N 3) := fun hq9 => c_200 ((nI_leI (a := 8) (b := (d_N 3)) (by omega) (by omega)).mpr hq9)
          refine lv_iconst (v := 1) hx hb dX8_readLine_52 hki_1 ?_
          refine lv_goto (tgt := 78) hx hb dX8_readLine_53 rfl ?_
          refine lv_iconst (v := 5) hx hb dX8_readLine_78 hki_5 ?_
          refine hs_cvM (va_runV (As := [.int 1, .int 5]) (rest := []) ⟨hx, hb, hml, hown, hts⟩ (gr_needs l D k _ mo mo_st mo_at mo_isKept mo_pe mo_hm mo_draft mo_dp mo_dh mo_toldLines mo_highest mo_tape mo_tl mo_ps mo_fr mo_sort mo_value u_198.1 u_198.2 mo_row mo_orderMany mo_fo mo_lightest mo_heaviest mo_before mo_justSum mo_toldSum mo_allWays mo_lanes mo_sizes mo_cells mo_torn mo_had 1 5 (by omega) (by omega)) (cwV 2 hts gX8_readLine_X8_needs rfl rfl rfl ⟨rfl, hq_X8_needs⟩ ⟨Nat.le_of_ble_eq_true rfl, Nat.le_of_ble_eq_true rfl⟩) (hs_preV hK hN (hs_subP (w := [_]) hP [0] rfl) (hD.sub (ws' := [_]) [0] (hs_upnd rfl) rfl) (ci := 7) (q0 := 0) rfl rfl) rfl rfl hl.1 rfl (lv_room (Nat.le_of_ble_eq_true rfl)) dX8_readLine_79 ⟨Nat.le_of_ble_eq_true rfl, Nat.le_of_ble_eq_true rfl⟩) hP hD hS hA [false, true, true] [_, _] [_] rfl [0] rfl [0] (fun u_207 => [_]) (fun _ => rfl) (hs_upnd rfl) [false, true, true] (fun u_207 => [_, _, _]) (fun _ => rfl) (fun u_207 H locs hw_206 hP hD hS => ?_)
          have hw_206 : u_207.1 ≤ 7 ∧ (u_207.1 = 0 → u_198.1 = 0) ∧ ((1 : Int32) = 0 → ¬ u_207.1 = 0) ∧ u_207 = hNd u_198.1 u_198.2 mo_fr 1 5 := hw_206
          have hqhw_206 : u_207.1 = u_198.1 := by rw [hw_206.2.2.2, hNd, if_neg (fun z9 => absurd z9.1 (by decide))]
          have hzhw_206 : u_207.1 = 0 := hqhw_206.trans hzhw_197
          refine lv_aload_n hx hb dX8_readLine_82 rfl (lv_at hl 1 rfl) ?_
          refine va_get (D := D) (ci := 7) (v := .int (nI (u_207.1))) (C := RX8) (T := TX8) (N := 32) hx hb hts hiX8 hown hK hP 0 rfl rfl 16 (Nat.le_of_ble_eq_true rfl) fl78 (fun _ h9 => h9) rfl dX8_readLine_83 ?_
          refine lv_if_ne (tgt := 127) hx hb dX8_readLine_86 rfl (fun c_208 => absurd ((nI_eq (a := (u_207.1)) (b := 0) (by omega) (by omega)).mpr hzhw_206) c_208) (fun c_208 => ?_)
          refine lv_iload_n hx hb dX8_readLine_89 rfl (lv_at hl 0 rfl) ?_
          refine lv_iconst (v := 5) hx hb dX8_readLine_90 hki_5 ?_
          refine lv_icmp_lt (tgt := 127) hx hb dX8_readLine_91 rfl (fun c_209 => ?_) (fun c_209 => absurd c_209 (by decide))
          exact kj127_0 (4, mo_toldLines, u_207.1, u_207.2) (by (try dsimp only); exact ⟨by omega, fun _ => by rw [hLN, ck_8y (by omega)]; exact ⟨rfl, fun h9 => by first | omega | exact absurd h9 (by decide), fun h9 => by first | omega | exact absurd h9 (by decide), by decide, rfl, ⟨ta, hta, rfl, htl⟩⟩, fun h => absurd hzhw_206 h⟩) _ _ _ hP hD hS (lv_sub hl [0, 1] rfl)
