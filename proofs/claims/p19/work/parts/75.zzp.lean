set_option maxHeartbeats 4000000 in
set_option maxRecDepth 100000 in
theorem gqf_just (l : Launch) (D : va_G) (k : Nat → ClassId) (sz : Nat) (mo : Nat) (mo_st : Nat) (mo_at : Nat) (mo_isKept : Nat) (mo_pe : Nat) (mo_hm : Nat) (mo_draft : Nat) (mo_dp : Nat) (mo_dh : Nat) (mo_toldLines : Int32) (mo_highest : Int32) (mo_tape : Nat) (mo_tl : Nat) (mo_ps : Nat) (mo_fr : Nat) (mo_sort : Int32) (mo_value : Int32) (mo_ft : Nat) (mo_wrongAt : Int32) (mo_row : Nat) (mo_orderMany : Int32) (mo_fo : Nat) (mo_lightest : Int32) (mo_heaviest : Int32) (mo_before : Nat) (mo_justSum : Int64) (mo_toldSum : Int64) (mo_allWays : Int64) (mo_lanes : Nat) (mo_sizes : Nat) (mo_cells : Nat) (mo_torn : Int32) (mo_had : Nat) (sf : Nat → Int32) (c0 : Nat) (c3 : Nat) (c4 : Nat) (fi : Nat) (af : Nat → Int32) (kk : Int32) (e0 : sf 0 = nI c0) (h0 : c0 ≤ 8) (h02 : 2 ≤ c0) (e3 : sf 16 = nI c3) (h3 : c3 ≤ 8) (e4 : sf 25 = nI c4) (h4 : c4 ≤ 6) (hpe : mo_pe ≤ 4) (hm2 : 2 ≤ mo_hm) (hm5 : mo_hm ≤ 5) (ef : sf 14 = nI fi) (hfi : fi ≤ 99) (hsaw : ∀ i, i < c4 → vp_in (sf (26 + 3 * i)) 4) : MI l yX8_just wsX8_just ({ frames := 5, cells := 0, slots := 0, locals := 116 }) D k [.ref mo, .int kk] [oq7 mo mo_st mo_at mo_isKept (nI mo_pe) (nI mo_hm) mo_draft (nI mo_dp) (nI mo_dh) mo_toldLines mo_highest mo_tape (nI mo_tl) (nI mo_ps) (nI mo_fr) mo_sort mo_value (nI mo_ft) mo_wrongAt mo_row mo_orderMany (nI mo_fo) mo_lightest mo_heaviest mo_before mo_justSum mo_toldSum mo_allWays mo_lanes mo_sizes mo_cells mo_torn mo_had, oqI k mo_st 132 (sf), oqI k mo_at 44 (af)] sz (fun (r : Int32) (u : Nat → Int32) => r = A_juM c0 mo_pe sf kk) (fun (u : Nat → Int32) => [oq7 mo mo_st mo_at mo_isKept (nI mo_pe) (nI mo_hm) mo_draft (nI mo_dp) (nI mo_dh) mo_toldLines mo_highest mo_tape (nI mo_tl) (nI mo_ps) (nI mo_fr) mo_sort mo_value (nI mo_ft) mo_wrongAt mo_row mo_orderMany (nI mo_fo) mo_lightest mo_heaviest mo_before mo_justSum mo_toldSum mo_allWays mo_lanes mo_sizes mo_cells mo_torn mo_had, oqI k mo_st 132 (sf), oqI k mo_at 44 (u)]) := by
  refine Met.ofW (cc := cX8_just) (maxL := 2) (ret := (some .int)) hpn_X8 rfl ?_
  intro p e s m args below meth c s₁ B hml hv
  obtain ⟨rfl, hsz, hP, hK, hD0, hN⟩ := hv
  have hx := B.exec
  have hb := B.bytes
  have hr := B.returns
  have hlocks := B.notSynchronized
  have hts := atoms_spec (ws := wsX8_just) B.pre
  have hown := findClass_of_methodNamed B.named
  have hown : s.vm.findClass RX8 = some m.cls := hown
  subst hsz
  have hD := hD0.self (sz := s.heap.size)
  generalize hAe : va_A [oq7 mo mo_st mo_at mo_isKept (nI mo_pe) (nI mo_hm) mo_draft (nI mo_dp) (nI mo_dh) mo_toldLines mo_highest mo_tape (nI mo_tl) (nI mo_ps) (nI mo_fr) mo_sort mo_value (nI mo_ft) mo_wrongAt mo_row mo_orderMany (nI mo_fo) mo_lightest mo_heaviest mo_before mo_justSum mo_toldSum mo_allWays mo_lanes mo_sizes mo_cells mo_torn mo_had, oqI k mo_st 132 (sf), oqI k mo_at 44 (af)] s.heap.size = A at hD ⊢
  have hA : ∀ q : Nat, s.heap.size ≤ q → A q := fun q h => by rw [← hAe]; exact Or.inr h
  have hS : va_S A s.heap s.heap [] := va_S.rf
  have hl := lv_entry ([.ref mo, .int kk]) (n := 2) (Nat.le_of_ble_eq_true rfl)
  rw [lg_entry_eq]
  generalize (lg_sl ([.ref mo, .int kk]) ++ List.replicate (2 - (lg_sl ([.ref mo, .int kk])).length) Slot.unset).toArray = ls at hl ⊢
  have hl : lv_has ls 2 [(0, .ref mo), (1, .int kk)] := hl
  have hP : va_P D vwCl [oq7 mo mo_st mo_at mo_isKept (nI mo_pe) (nI mo_hm) mo_draft (nI mo_dp) (nI mo_dh) mo_toldLines mo_highest mo_tape (nI mo_tl) (nI mo_ps) (nI mo_fr) mo_sort mo_value (nI mo_ft) mo_wrongAt mo_row mo_orderMany (nI mo_fo) mo_lightest mo_heaviest mo_before mo_justSum mo_toldSum mo_allWays mo_lanes mo_sizes mo_cells mo_torn mo_had, oqI k mo_st 132 (sf), oqI k mo_at 44 (af)] s.heap := hP
  refine lv_aload_n hx hb dX8_just_0 rfl (lv_at hl 0 rfl) ?_
  refine lv_iload_n hx hb dX8_just_1 rfl (lv_at hl 1 rfl) ?_
  refine hs_ciM (va_runV (As := [.int kk]) (rest := []) ⟨hx, hb, hml, hown, hts⟩ (gm_isCut l D k _ mo mo_st mo_at mo_isKept mo_pe mo_hm mo_draft mo_dp mo_dh mo_toldLines mo_highest mo_tape mo_tl mo_ps mo_fr mo_sort mo_value mo_ft mo_wrongAt mo_row mo_orderMany mo_fo mo_lightest mo_heaviest mo_before mo_justSum mo_toldSum mo_allWays mo_lanes mo_sizes mo_cells mo_torn mo_had sf c0 kk e0 (by omega)) (cwV 1 hts gX8_just_X8_isCut rfl rfl rfl ⟨rfl, hq_X8_isCut⟩ ⟨Nat.le_of_ble_eq_true rfl, Nat.le_of_ble_eq_true rfl⟩) (hs_preV hK hN (hs_subP (w := [_, _]) hP [0, 1] rfl) (hD.sub (ws' := [_, _]) [0, 1] (hs_upnd rfl) rfl) (ci := 7) (q0 := 0) rfl rfl) rfl rfl hl.1 rfl (lv_room (Nat.le_of_ble_eq_true rfl)) dX8_just_2 ⟨Nat.le_of_ble_eq_true rfl, Nat.le_of_ble_eq_true rfl⟩) hP hD hS hA [false, false, true] [_] [_, _] rfl [0, 1] rfl [0, 1] (fun u_3 => [_, _]) (fun _ => rfl) (hs_upnd rfl) [false, false, true] (fun u_3 => [_, _, _]) (fun _ => rfl) (fun r_1 u_3 H locs hw_2 hP hD hS => ?_)
  refine hs_topi (hsb (hslt1 kk c0)) hw_2 ?_
  refine lv_if_ne (tgt := 10) hx hb dX8_just_5 rfl (fun c_4 => ?_) (fun c_4 => ?_)
  · refine lv_aload_n hx hb dX8_just_10 rfl (lv_at hl 0 rfl) ?_
    refine hs_cvM (va_runV (As := []) (rest := []) ⟨hx, hb, hml, hown, hts⟩ (gm_starts l D k _ mo mo_st mo_at mo_isKept mo_pe mo_hm mo_draft mo_dp mo_dh mo_toldLines mo_highest mo_tape mo_tl mo_ps mo_fr mo_sort mo_value mo_ft mo_wrongAt mo_row mo_orderMany mo_fo mo_lightest mo_heaviest mo_before mo_justSum mo_toldSum mo_allWays mo_lanes mo_sizes mo_cells mo_torn mo_had sf af) (cwV 0 hts gX8_just_X8_starts rfl rfl rfl ⟨rfl, hq_X8_starts⟩ ⟨Nat.le_of_ble_eq_true rfl, Nat.le_of_ble_eq_true rfl⟩) (hs_preV hK hN (hs_subP (w := [_, _, _]) hP [0, 1, 2] rfl) (hD.sub (ws' := [_, _, _]) [0, 1, 2] (hs_upnd rfl) rfl) (ci := 7) (q0 := 0) rfl rfl) rfl rfl hl.1 rfl (lv_room (Nat.le_of_ble_eq_true rfl)) dX8_just_11 ⟨Nat.le_of_ble_eq_true rfl, Nat.le_of_ble_eq_true rfl⟩) hP hD hS hA [false, false, false] [] [_, _, _] rfl [0, 1, 2] rfl [0, 1, 2] (fun u_7 => [_, _, _]) (fun _ => rfl) (hs_upnd rfl) [false, false, false] (fun u_7 => [_, _, _]) (fun _ => rfl) (fun u_7 H locs hw_6 hP hD hS => ?_)
    have hw_6 : ∀ j, j < 44 → u_7 j = sf j := hw_6
    have e0a : u_7 0 = nI c0 := (hw_6 0 (by decide)).trans e0
    have e3a : u_7 16 = nI c3 := (hw_6 16 (by decide)).trans e3
    have e4a : u_7 25 = nI c4 := (hw_6 25 (by decide)).trans e4
    have hw_6 : ∀ j, j < 44 → u_7 j = sf j := hw_6
    refine lv_aload_n hx hb dX8_just_14 rfl (lv_at hl 0 rfl) ?_
    refine lv_iload_n hx hb dX8_just_15 rfl (lv_at hl 1 rfl) ?_
    refine hs_ciM (va_runV (As := [.int kk]) (rest := []) ⟨hx, hb, hml, hown, hts⟩ (gr_justTo l D k _ mo mo_st mo_at mo_isKept mo_pe mo_hm mo_draft mo_dp mo_dh mo_toldLines mo_highest mo_tape mo_tl mo_ps mo_fr mo_sort mo_value mo_ft mo_wrongAt mo_row mo_orderMany mo_fo mo_lightest mo_heaviest mo_before mo_justSum mo_toldSum mo_allWays mo_lanes mo_sizes mo_cells mo_torn mo_had u_7 c0 kk (by first | exact e0a | exact e0) (by omega) (by omega)) (cwV 1 hts gX8_just_X8_justTo rfl rfl rfl ⟨rfl, hq_X8_justTo⟩ ⟨Nat.le_of_ble_eq_true rfl, Nat.le_of_ble_eq_true rfl⟩) (hs_preV hK hN (hs_subP (w := [_, _]) hP [0, 2] rfl) (hD.sub (ws' := [_, _]) [0, 2] (hs_upnd rfl) rfl) (ci := 7) (q0 := 0) rfl rfl) rfl rfl hl.1 rfl (lv_room (Nat.le_of_ble_eq_true rfl)) dX8_just_16 ⟨Nat.le_of_ble_eq_true rfl, Nat.le_of_ble_eq_true rfl⟩) hP hD hS hA [false, true, false] [_] [_, _] rfl [0, 1] rfl [0, 1] (fun u_10 => [_, _]) (fun _ => rfl) (hs_upnd rfl) [false, true, false] (fun u_10 => [_, _, _]) (fun _ => rfl) (fun r_8 u_10 H locs hw_9 hP hD hS => ?_)
    refine hs_topi (A_jt (A_vfm c0 u_7 kk) mo_pe) hw_9 ?_
    exact hs_iret hx hb hr hlocks hK hP hD hS u_7 [0, 1, 2] rfl (hs_upnd rfl) dX8_just_19 ((by rw [A_juM, if_pos (hs_nb c_4)]; exact A_jt_congr _ (fun q hq => A_vfm_congr (by omega) (fun x hx => hw_6 x (by omega)) q (by omega))))
  · refine lv_iconst (v := (-1)) hx hb dX8_just_8 hki_m1 ?_
    exact hs_iret hx hb hr hlocks hK hP hD hS af [0, 1, 2] rfl (hs_upnd rfl) dX8_just_9 ((by rw [A_juM, if_neg (by rw [hs_n0 c_4]; decide)]))
