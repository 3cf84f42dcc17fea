/-- the reference's number of the class's line w -/
def hmw (w : Nat) : Nat := ([0, 1, 2, 3, 5, 6, 7, 8, 4] : List Nat).getD w 0
theorem hmi_w {w : Nat} (h : w < 9) : hmi (nI (hmw w)) = nI w := by
  rcases (show w = 0 ∨ w = 1 ∨ w = 2 ∨ w = 3 ∨ w = 4 ∨ w = 5 ∨ w = 6 ∨ w = 7 ∨ w = 8 by omega) with rfl | rfl | rfl | rfl | rfl | rfl | rfl | rfl | rfl <;> decide

set_option maxHeartbeats 4000000 in
set_option maxRecDepth 100000 in
theorem gr_lineNow (l : Launch) (D : va_G) (k : Nat → ClassId) (sz : Nat) (mo : Nat) (mo_st : Nat) (mo_at : Nat) (mo_isKept : Nat) (mo_pe : Nat) (mo_hm : Nat) (mo_draft : Nat) (mo_dp : Nat) (mo_dh : Nat) (mo_toldLines : Int32) (mo_highest : Int32) (mo_tape : Nat) (mo_tl : Nat) (mo_ps : Nat) (mo_fr : Nat) (mo_sort : Int32) (mo_value : Int32) (mo_ft : Nat) (mo_wrongAt : Int32) (mo_row : Nat) (mo_orderMany : Int32) (mo_fo : Nat) (mo_lightest : Int32) (mo_heaviest : Int32) (mo_before : Nat) (mo_justSum : Int64) (mo_toldSum : Int64) (mo_allWays : Int64) (mo_lanes : Nat) (mo_sizes : Nat) (mo_cells : Nat) (mo_torn : Int32) (mo_had : Nat) (tf : Nat → Int32) (ht : mo_tl ≤ 160) (hfp : mo_fr ≤ mo_ps) (hpt : mo_ps ≤ mo_tl) : MI l yX8_lineNow wsX8_lineNow ({ frames := 2, cells := 0, slots := 0, locals := 45 }) D k [.ref mo] [oq7 mo mo_st mo_at mo_isKept (nI mo_pe) (nI mo_hm) mo_draft (nI mo_dp) (nI mo_dh) mo_toldLines mo_highest mo_tape (nI mo_tl) (nI mo_ps) (nI mo_fr) mo_sort mo_value (nI mo_ft) mo_wrongAt mo_row mo_orderMany (nI mo_fo) mo_lightest mo_heaviest mo_before mo_justSum mo_toldSum mo_allWays mo_lanes mo_sizes mo_cells mo_torn mo_had, oqI k mo_tape 160 (tf)] sz (fun (r : Int32) (u : Unit) => (r = -4 ∧ ∀ w, w < 9 → A_word tf mo_fr mo_ps w = false) ∨ ∃ w : Nat, w < 9 ∧ A_word tf mo_fr mo_ps w = true ∧ r = nI (hmw w)) (fun (u : Unit) => [oq7 mo mo_st mo_at mo_isKept (nI mo_pe) (nI mo_hm) mo_draft (nI mo_dp) (nI mo_dh) mo_toldLines mo_highest mo_tape (nI mo_tl) (nI mo_ps) (nI mo_fr) mo_sort mo_value (nI mo_ft) mo_wrongAt mo_row mo_orderMany (nI mo_fo) mo_lightest mo_heaviest mo_before mo_justSum mo_toldSum mo_allWays mo_lanes mo_sizes mo_cells mo_torn mo_had, oqI k mo_tape 160 (tf)]) := by
  refine Met.ofW (cc := cX8_lineNow) (maxL := 1) (ret := (some .int)) hpn_X8 rfl ?_
  intro p e s m args below meth c s₁ B hml hv
  obtain ⟨rfl, hsz, hP, hK, hD0, hN⟩ := hv
  have hx := B.exec
  have hb := B.bytes
  have hr := B.returns
  have hlocks := B.notSynchronized
  have hts := atoms_spec (ws := wsX8_lineNow) B.pre
  have hown := findClass_of_methodNamed B.named
  have hown : s.vm.findClass RX8 = some m.cls := hown
  subst hsz
  have hD := hD0.self (sz := s.heap.size)
  generalize hAe : va_A [oq7 mo mo_st mo_at mo_isKept (nI mo_pe) (nI mo_hm) mo_draft (nI mo_dp) (nI mo_dh) mo_toldLines mo_highest mo_tape (nI mo_tl) (nI mo_ps) (nI mo_fr) mo_sort mo_value (nI mo_ft) mo_wrongAt mo_row mo_orderMany (nI mo_fo) mo_lightest mo_heaviest mo_before mo_justSum mo_toldSum mo_allWays mo_lanes mo_sizes mo_cells mo_torn mo_had, oqI k mo_tape 160 (tf)] s.heap.size = A at hD ⊢
  have hA : ∀ q : Nat, s.heap.size ≤ q → A q := fun q h => by rw [← hAe]; exact Or.inr h
  have hS : va_S A s.heap s.heap [] := va_S.rf
  have hl := lv_entry ([.ref mo]) (n := 1) (Nat.le_of_ble_eq_true rfl)
  rw [lg_entry_eq]
  generalize (lg_sl ([.ref mo]) ++ List.replicate (1 - (lg_sl ([.ref mo])).length) Slot.unset).toArray = ls at hl ⊢
  have hl : lv_has ls 1 [(0, .ref mo)] := hl
  have hP : va_P D vwCl [oq7 mo mo_st mo_at mo_isKept (nI mo_pe) (nI mo_hm) mo_draft (nI mo_dp) (nI mo_dh) mo_toldLines mo_highest mo_tape (nI mo_tl) (nI mo_ps) (nI mo_fr) mo_sort mo_value (nI mo_ft) mo_wrongAt mo_row mo_orderMany (nI mo_fo) mo_lightest mo_heaviest mo_before mo_justSum mo_toldSum mo_allWays mo_lanes mo_sizes mo_cells mo_torn mo_had, oqI k mo_tape 160 (tf)] s.heap := hP
  refine hs_join (D := D) (A := A) (H0 := s.heap) (pc1 := 29) (maxL := 1) (σ := Unit) (fun _ => A_word tf mo_fr mo_ps 0 = false) (fun _ => [oq7 mo mo_st mo_at mo_isKept (nI mo_pe) (nI mo_hm) mo_draft (nI mo_dp) (nI mo_dh) mo_toldLines mo_highest mo_tape (nI mo_tl) (nI mo_ps) (nI mo_fr) mo_sort mo_value (nI mo_ft) mo_wrongAt mo_row mo_orderMany (nI mo_fo) mo_lightest mo_heaviest mo_before mo_justSum mo_toldSum mo_allWays mo_lanes mo_sizes mo_cells mo_torn mo_had, oqI k mo_tape 160 (tf)]) (fun _ => [(0, .ref mo)]) ?_ (fun kn29 => ?_)
  · intro _ hno0 H locs ls hP hD hS hl
    refine hs_join (D := D) (A := A) (H0 := s.heap) (pc1 := 58) (maxL := 1) (σ := Unit) (fun _ => A_word tf mo_fr mo_ps 1 = false) (fun _ => [oq7 mo mo_st mo_at mo_isKept (nI mo_pe) (nI mo_hm) mo_draft (nI mo_dp) (nI mo_dh) mo_toldLines mo_highest mo_tape (nI mo_tl) (nI mo_ps) (nI mo_fr) mo_sort mo_value (nI mo_ft) mo_wrongAt mo_row mo_orderMany (nI mo_fo) mo_lightest mo_heaviest mo_before mo_justSum mo_toldSum mo_allWays mo_lanes mo_sizes mo_cells mo_torn mo_had, oqI k mo_tape 160 (tf)]) (fun _ => [(0, .ref mo)]) ?_ (fun kn58 => ?_)
    · intro _ hno1 H locs ls hP hD hS hl
      refine hs_join (D := D) (A := A) (H0 := s.heap) (pc1 := 87) (maxL := 1) (σ := Unit) (fun _ => A_word tf mo_fr mo_ps 2 = false) (fun _ => [oq7 mo mo_st mo_at mo_isKept (nI mo_pe) (nI mo_hm) mo_draft (nI mo_dp) (nI mo_dh) mo_toldLines mo_highest mo_tape (nI mo_tl) (nI mo_ps) (nI mo_fr) mo_sort mo_value (nI mo_ft) mo_wrongAt mo_row mo_orderMany (nI mo_fo) mo_lightest mo_heaviest mo_before mo_justSum mo_toldSum mo_allWays mo_lanes mo_sizes mo_cells mo_torn mo_had, oqI k mo_tape 160 (tf)]) (fun _ => [(0, .ref mo)]) ?_ (fun kn87 => ?_)
      · intro _ hno2 H locs ls hP hD hS hl
        refine hs_join (D := D) (A := A) (H0 := s.heap) (pc1 := 118) (maxL := 1) (σ := Unit) (fun _ => A_word tf mo_fr mo_ps 3 = false) (fun _ => [oq7 mo mo_st mo_at mo_isKept (nI mo_pe) (nI mo_hm) mo_draft (nI mo_dp) (nI mo_dh) mo_toldLines mo_highest mo_tape (nI mo_tl) (nI mo_ps) (nI mo_fr) mo_sort mo_value (nI mo_ft) mo_wrongAt mo_row mo_orderMany (nI mo_fo) mo_lightest mo_heaviest mo_before mo_justSum mo_toldSum mo_allWays mo_lanes mo_sizes mo_cells mo_torn mo_had, oqI k mo_tape 160 (tf)]) (fun _ => [(0, .ref mo)]) ?_ (fun kn118 => ?_)
        · intro _ hno3 H locs ls hP hD hS hl
          refine hs_join (D := D) (A := A) (H0 := s.heap) (pc1 := 150) (maxL := 1) (σ := Unit) (fun _ => A_word tf mo_fr mo_ps 8 = false) (fun _ => [oq7 mo mo_st mo_at mo_isKept (nI mo_pe) (nI mo_hm) mo_draft (nI mo_dp) (nI mo_dh) mo_toldLines mo_highest mo_tape (nI mo_tl) (nI mo_ps) (nI mo_fr) mo_sort mo_value (nI mo_ft) mo_wrongAt mo_row mo_orderMany (nI mo_fo) mo_lightest mo_heaviest mo_before mo_justSum mo_toldSum mo_allWays mo_lanes mo_sizes mo_cells mo_torn mo_had, oqI k mo_tape 160 (tf)]) (fun _ => [(0, .ref mo)]) ?_ (fun kn150 => ?_)
          · intro _ hno8 H locs ls hP hD hS hl
            refine hs_join (D := D) (A := A) (H0 := s.heap) (pc1 := 179) (maxL := 1) (σ := Unit) (fun _ => A_word tf mo_fr mo_ps 4 = false) (fun _ => [oq7 mo mo_st mo_at mo_isKept (nI mo_pe) (nI mo_hm) mo_draft (nI mo_dp) (nI mo_dh) mo_toldLines mo_highest mo_tape (nI mo_tl) (nI mo_ps) (nI mo_fr) mo_sort mo_value (nI mo_ft) mo_wrongAt mo_row mo_orderMany (nI mo_fo) mo_lightest mo_heaviest mo_before mo_justSum mo_toldSum mo_allWays mo_lanes mo_sizes mo_cells mo_torn mo_had, oqI k mo_tape 160 (tf)]) (fun _ => [(0, .ref mo)]) ?_ (fun kn179 => ?_)
            · intro _ hno4 H locs ls hP hD hS hl
              refine hs_join (D := D) (A := A) (H0 := s.heap) (pc1 := 208) (maxL := 1) (σ := Unit) (fun _ => A_word tf mo_fr mo_ps 5 = false) (fun _ => [oq7 mo mo_st mo_at mo_isKept (nI mo_pe) (nI mo_hm) mo_draft (nI mo_dp) (nI mo_dh) mo_toldLines mo_highest mo_tape (nI mo_tl) (nI mo_ps) (nI mo_fr) mo_sort mo_value (nI mo_ft) mo_wrongAt mo_row mo_orderMany (nI mo_fo) mo_lightest mo_heaviest mo_before mo_justSum mo_toldSum mo_allWays mo_lanes mo_sizes mo_cells mo_torn mo_had, oqI k mo_tape 160 (tf)]) (fun _ => [(0, .ref mo)]) ?_ (fun kn208 => ?_)
              · intro _ hno5 H locs ls hP hD hS hl
                refine hs_join (D := D) (A := A) (H0 := s.heap) (pc1 := 239) (maxL := 1) (σ := Unit) (fun _ => A_word tf mo_fr mo_ps 6 = false) (fun _ => [oq7 mo mo_st mo_at mo_isKept (nI mo_pe) (nI mo_hm) mo_draft (nI mo_dp) (nI mo_dh) mo_toldLines mo_highest mo_tape (nI mo_tl) (nI mo_ps) (nI mo_fr) mo_sort mo_value (nI mo_ft) mo_wrongAt mo_row mo_orderMany (nI mo_fo) mo_lightest mo_heaviest mo_before mo_justSum mo_toldSum mo_allWays mo_lanes mo_sizes mo_cells mo_torn mo_had, oqI k mo_tape 160 (tf)]) (fun _ => [(0, .ref mo)]) ?_ (fun kn239 => ?_)
                · intro _ hno6 H locs ls hP hD hS hl
                  refine hs_join (D := D) (A := A) (H0 := s.heap) (pc1 := 270) (maxL := 1) (σ := Unit) (fun _ => A_word tf mo_fr mo_ps 7 = false) (fun _ => [oq7 mo mo_st mo_at mo_isKept (nI mo_pe) (nI mo_hm) mo_draft (nI mo_dp) (nI mo_dh) mo_toldLines mo_highest mo_tape (nI mo_tl) (nI mo_ps) (nI mo_fr) mo_sort mo_value (nI mo_ft) mo_wrongAt mo_row mo_orderMany (nI mo_fo) mo_lightest mo_heaviest mo_before mo_justSum mo_toldSum mo_allWays mo_lanes mo_sizes mo_cells mo_torn mo_had, oqI k mo_tape 160 (tf)]) (fun _ => [(0, .ref mo)]) ?_ (fun kn270 => ?_)
                  · intro _ hno7 H locs ls hP hD hS hl
                    refine lv_bipush (v := (-4)) hx hb dX8_lineNow_270 hkb_m4 ?_
                    exact hs_iret hx hb hr hlocks hK hP hD hS () [0, 1] rfl (hs_upnd rfl) dX8_lineNow_272 (Or.inl ⟨rfl, fun w hw => by rcases (show w = 0 ∨ w = 1 ∨ w = 2 ∨ w = 3 ∨ w = 4 ∨ w = 5 ∨ w = 6 ∨ w = 7 ∨ w = 8 by omega) with rfl | rfl | rfl | rfl | rfl | rfl | rfl | rfl | rfl <;> assumption⟩)
                  · refine lv_aload_n hx hb dX8_lineNow_239 rfl (lv_at hl 0 rfl) ?_
                    refine lv_iconst (v := 4) hx hb dX8_lineNow_240 hki_4 ?_
                    refine lv_bipush (v := 99) hx hb dX8_lineNow_241 hkb_99 ?_
                    refine lv_bipush (v := 97) hx hb dX8_lineNow_243 hkb_97 ?_
                    refine lv_bipush (v := 115) hx hb dX8_lineNow_245 hkb_115 ?_
                    refine hs_ciM (va_runV (As := [.int 4, .int 99, .int 97, .int 115]) (rest := []) ⟨hx, hb, hml, hown, hts⟩ (gr_is l D k _ mo mo_st mo_at mo_isKept mo_pe mo_hm mo_draft mo_dp mo_dh mo_toldLines mo_highest mo_tape mo_tl mo_ps mo_fr mo_sort mo_value mo_ft mo_wrongAt mo_row mo_orderMany mo_fo mo_lightest mo_heaviest mo_before mo_justSum mo_toldSum mo_allWays mo_lanes mo_sizes mo_cells mo_torn mo_had tf 4 99 97 115 (by omega) (by omega) (by omega)) (cwV 4 hts gX8_lineNow_X8_is rfl rfl rfl ⟨rfl, hq_X8_is⟩ ⟨Nat.le_of_ble_eq_true rfl, Nat.le_of_ble_eq_true rfl⟩) (hs_preV hK hN (hs_subP (w := [_, _]) hP [0, 1] rfl) (hD.sub (ws' := [_, _]) [0, 1] (hs_upnd rfl) rfl) (ci := 7) (q0 := 0) rfl rfl) rfl rfl hl.1 rfl (lv_room (Nat.le_of_ble_eq_true rfl)) dX8_lineNow_247 ⟨Nat.le_of_ble_eq_true rfl, Nat.le_of_ble_eq_true rfl⟩) hP hD hS hA [false, false] [] [_, _] rfl [0, 1] rfl [0, 1] (fun u_3 => [_, _]) (fun _ => rfl) (hs_upnd rfl) [false, false] (fun u_3 => [_, _]) (fun _ => rfl) (fun r_1 u_3 H locs hw_2 hP hD hS => ?_)
                    refine hs_topi (hsb (hIs tf mo_tl mo_fr mo_ps 4 99 97 115)) hw_2 ?_
                    refine lv_if_eq (tgt := 270) hx hb dX8_lineNow_250 rfl (fun c_4 => ?_) (fun c_4 => ?_)
                    · exact kn270 () (hw_no7 (by omega) (by omega) (by omega) (Or.inl (hs_n0 c_4))) _ _ _ hP hD hS (lv_sub hl [0] rfl)
                    · refine lv_aload_n hx hb dX8_lineNow_253 rfl (lv_at hl 0 rfl) ?_
                      refine lv_bipush (v := 101) hx hb dX8_lineNow_254 hkb_101 ?_
                      refine lv_iconst (v := 0) hx hb dX8_lineNow_256 hki_0 ?_
                      refine lv_iconst (v := 0) hx hb dX8_lineNow_257 hki_0 ?_
                      refine lv_iconst (v := 0) hx hb dX8_lineNow_258 hki_0 ?_
                      refine hs_ciM (va_runV (As := [.int 101, .int 0, .int 0, .int 0]) (rest := []) ⟨hx, hb, hml, hown, hts⟩ (gr_ends l D k _ mo mo_st mo_at mo_isKept mo_pe mo_hm mo_draft mo_dp mo_dh mo_toldLines mo_highest mo_tape mo_tl mo_ps mo_fr mo_sort mo_value mo_ft mo_wrongAt mo_row mo_orderMany mo_fo mo_lightest mo_heaviest mo_before mo_justSum mo_toldSum mo_allWays mo_lanes mo_sizes mo_cells mo_torn mo_had tf 101 0 0 0 (by omega) (by omega) (by omega)) (cwV 4 hts gX8_lineNow_X8_ends rfl rfl rfl ⟨rfl, hq_X8_ends⟩ ⟨Nat.le_of_ble_eq_true rfl, Nat.le_of_ble_eq_true rfl⟩) (hs_preV hK hN (hs_subP (w := [_, _]) hP [0, 1] rfl) (hD.sub (ws' := [_, _]) [0, 1] (hs_upnd rfl) rfl) (ci := 7) (q0 := 0) rfl rfl) rfl rfl hl.1 rfl (lv_room (Nat.le_of_ble_eq_true rfl)) dX8_lineNow_259 ⟨Nat.le_of_ble_eq_true rfl, Nat.le_of_ble_eq_true rfl⟩) hP hD hS hA [false, false] [] [_, _] rfl [0, 1] rfl [0, 1] (fun u_7 => [_, _]) (fun _ => rfl) (hs_upnd rfl) [false, false] (fun u_7 => [_, _]) (fun _ => rfl) (fun r_5 u_7 H locs hw_6 hP hD hS => ?_)
                      refine hs_topi (hsb (hEn tf mo_tl mo_fr 101 0 0 0)) hw_6 ?_
                      refine lv_if_eq (tgt := 270) hx hb dX8_lineNow_262 rfl (fun c_8 => ?_) (fun c_8 => ?_)
                      · exact kn270 () (hw_no7 (by omega) (by omega) (by omega) (Or.inr (hs_n0 c_8))) _ _ _ hP hD hS (lv_sub hl [0] rfl)
                      · refine lv_bipush (v := 8) hx hb dX8_lineNow_265 hkb_8 ?_
                        refine lv_goto (tgt := 272) hx hb dX8_lineNow_267 rfl ?_
                        exact hs_iret hx hb hr hlocks hK hP hD hS () [0, 1] rfl (hs_upnd rfl) dX8_lineNow_272 (Or.inr ⟨7, by decide, hw_yes7 (by omega) (by omega) (by omega) (hs_nb c_4) (hs_nb c_8), rfl⟩)
                · refine lv_aload_n hx hb dX8_lineNow_208 rfl (lv_at hl 0 rfl) ?_
                  refine lv_iconst (v := 4) hx hb dX8_lineNow_209 hki_4 ?_
                  refine lv_bipush (v := 102) hx hb dX8_lineNow_210 hkb_102 ?_
                  refine lv_bipush (v := 105) hx hb dX8_lineNow_212 hkb_105 ?_
                  refine lv_bipush (v := 110) hx hb dX8_lineNow_214 hkb_110 ?_
                  refine hs_ciM (va_runV (As := [.int 4, .int 102, .int 105, .int 110]) (rest := []) ⟨hx, hb, hml, hown, hts⟩ (gr_is l D k _ mo mo_st mo_at mo_isKept mo_pe mo_hm mo_draft mo_dp mo_dh mo_toldLines mo_highest mo_tape mo_tl mo_ps mo_fr mo_sort mo_value mo_ft mo_wrongAt mo_row mo_orderMany mo_fo mo_lightest mo_heaviest mo_before mo_justSum mo_toldSum mo_allWays mo_lanes mo_sizes mo_cells mo_torn mo_had tf 4 102 105 110 (by omega) (by omega) (by omega)) (cwV 4 hts gX8_lineNow_X8_is rfl rfl rfl ⟨rfl, hq_X8_is⟩ ⟨Nat.le_of_ble_eq_true rfl, Nat.le_of_ble_eq_true rfl⟩) (hs_preV hK hN (hs_subP (w := [_, _]) hP [0, 1] rfl) (hD.sub (ws' := [_, _]) [0, 1] (hs_upnd rfl) rfl) (ci := 7) (q0 := 0) rfl rfl) rfl rfl hl.1 rfl (lv_room (Nat.le_of_ble_eq_true rfl)) dX8_lineNow_216 ⟨Nat.le_of_ble_eq_true rfl, Nat.le_of_ble_eq_true rfl⟩) hP hD hS hA [false, false] [] [_, _] rfl [0, 1] rfl [0, 1] (fun u_11 => [_, _]) (fun _ => rfl) (hs_upnd rfl) [false, false] (fun u_11 => [_, _]) (fun _ => rfl) (fun r_9 u_11 H locs hw_10 hP hD hS => ?_)
                  refine hs_topi (hsb (hIs tf mo_tl mo_fr mo_ps 4 102 105 110)) hw_10 ?_
                  refine lv_if_eq (tgt := 239) hx hb dX8_lineNow_219 rfl (fun c_12 => ?_) (fun c_12 => ?_)
                  · exact kn239 () (hw_no6 (by omega) (by omega) (by omega) (Or.inl (hs_n0 c_12))) _ _ _ hP hD hS (lv_sub hl [0] rfl)
                  · refine lv_aload_n hx hb dX8_lineNow_222 rfl (lv_at hl 0 rfl) ?_
                    refine lv_bipush (v := 101) hx hb dX8_lineNow_223 hkb_101 ?_
                    refine lv_iconst (v := 0) hx hb dX8_lineNow_225 hki_0 ?_
                    refine lv_iconst (v := 0) hx hb dX8_lineNow_226 hki_0 ?_
                    refine lv_iconst (v := 0) hx hb dX8_lineNow_227 hki_0 ?_
                    refine hs_ciM (va_runV (As := [.int 101, .int 0, .int 0, .int 0]) (rest := []) ⟨hx, hb, hml, hown, hts⟩ (gr_ends l D k _ mo mo_st mo_at mo_isKept mo_pe mo_hm mo_draft mo_dp mo_dh mo_toldLines mo_highest mo_tape mo_tl mo_ps mo_fr mo_sort mo_value mo_ft mo_wrongAt mo_row mo_orderMany mo_fo mo_lightest mo_heaviest mo_before mo_justSum mo_toldSum mo_allWays mo_lanes mo_sizes mo_cells mo_torn mo_had tf 101 0 0 0 (by omega) (by omega) (by omega)) (cwV 4 hts gX8_lineNow_X8_ends rfl rfl rfl ⟨rfl, hq_X8_ends⟩ ⟨Nat.le_of_ble_eq_true rfl, Nat.le_of_ble_eq_true rfl⟩) (hs_preV hK hN (hs_subP (w := [_, _]) hP [0, 1] rfl) (hD.sub (ws' := [_, _]) [0, 1] (hs_upnd rfl) rfl) (ci := 7) (q0 := 0) rfl rfl) rfl rfl hl.1 rfl (lv_room (Nat.le_of_ble_eq_true rfl)) dX8_lineNow_228 ⟨Nat.le_of_ble_eq_true rfl, Nat.le_of_ble_eq_true rfl⟩) hP hD hS hA [false, false] [] [_, _] rfl [0, 1] rfl [0, 1] (fun u_15 => [_, _]) (fun _ => rfl) (hs_upnd rfl) [false, false] (fun u_15 => [_, _]) (fun _ => rfl) (fun r_13 u_15 H locs hw_14 hP hD hS => ?_)
                    refine hs_topi (hsb (hEn tf mo_tl mo_fr 101 0 0 0)) hw_14 ?_
                    refine lv_if_eq (tgt := 239) hx hb dX8_lineNow_231 rfl (fun c_16 => ?_) (fun c_16 => ?_)
                    · exact kn239 () (hw_no6 (by omega) (by omega) (by omega) (Or.inr (hs_n0 c_16))) _ _ _ hP hD hS (lv_sub hl [0] rfl)
                    · refine lv_bipush (v := 7) hx hb dX8_lineNow_234 hkb_7 ?_
                      refine lv_goto (tgt := 272) hx hb dX8_lineNow_236 rfl ?_
                      exact hs_iret hx hb hr hlocks hK hP hD hS () [0, 1] rfl (hs_upnd rfl) dX8_lineNow_272 (Or.inr ⟨6, by decide, hw_yes6 (by omega) (by omega) (by omega) (hs_nb c_12) (hs_nb c_16), rfl⟩)
              · refine lv_aload_n hx hb dX8_lineNow_179 rfl (lv_at hl 0 rfl) ?_
                refine lv_iconst (v := 4) hx hb dX8_lineNow_180 hki_4 ?_
                refine lv_bipush (v := 115) hx hb dX8_lineNow_181 hkb_115 ?_
                refine lv_bipush (v := 108) hx hb dX8_lineNow_183 hkb_108 ?_
                refine lv_bipush (v := 105) hx hb dX8_lineNow_185 hkb_105 ?_
                refine hs_ciM (va_runV (As := [.int 4, .int 115, .int 108, .int 105]) (rest := []) ⟨hx, hb, hml, hown, hts⟩ (gr_is l D k _ mo mo_st mo_at mo_isKept mo_pe mo_hm mo_draft mo_dp mo_dh mo_toldLines mo_highest mo_tape mo_tl mo_ps mo_fr mo_sort mo_value mo_ft mo_wrongAt mo_row mo_orderMany mo_fo mo_lightest mo_heaviest mo_before mo_justSum mo_toldSum mo_allWays mo_lanes mo_sizes mo_cells mo_torn mo_had tf 4 115 108 105 (by omega) (by omega) (by omega)) (cwV 4 hts gX8_lineNow_X8_is rfl rfl rfl ⟨rfl, hq_X8_is⟩ ⟨Nat.le_of_ble_eq_true rfl, Nat.le_of_ble_eq_true rfl⟩) (hs_preV hK hN (hs_subP (w := [_, _]) hP [0, 1] rfl) (hD.sub (ws' := [_, _]) [0, 1] (hs_upnd rfl) rfl) (ci := 7) (q0 := 0) rfl rfl) rfl rfl hl.1 rfl (lv_room (Nat.le_of_ble_eq_true rfl)) dX8_lineNow_187 ⟨Nat.le_of_ble_eq_true rfl, Nat.le_of_ble_eq_true rfl⟩) hP hD hS hA [false, false] [] [_, _] rfl [0, 1] rfl [0, 1] (fun u_19 => [_, _]) (fun _ => rfl) (hs_upnd rfl) [false, false] (fun u_19 => [_, _]) (fun _ => rfl) (fun r_17 u_19 H locs hw_18 hP hD hS => ?_)
                refine hs_topi (hsb (hIs tf mo_tl mo_fr mo_ps 4 115 108 105)) hw_18 ?_
                refine lv_if_eq (tgt := 208) hx hb dX8_lineNow_190 rfl (fun c_20 => ?_) (fun c_20 => ?_)
                · exact kn208 () (hw_no5 (by omega) (by omega) (by omega) (Or.inl (hs_n0 c_20))) _ _ _ hP hD hS (lv_sub hl [0] rfl)
                · refine lv_aload_n hx hb dX8_lineNow_193 rfl (lv_at hl 0 rfl) ?_
                  refine lv_bipush (v := 112) hx hb dX8_lineNow_194 hkb_112 ?_
                  refine lv_iconst (v := 0) hx hb dX8_lineNow_196 hki_0 ?_
                  refine lv_iconst (v := 0) hx hb dX8_lineNow_197 hki_0 ?_
                  refine lv_iconst (v := 0) hx hb dX8_lineNow_198 hki_0 ?_
                  refine hs_ciM (va_runV (As := [.int 112, .int 0, .int 0, .int 0]) (rest := []) ⟨hx, hb, hml, hown, hts⟩ (gr_ends l D k _ mo mo_st mo_at mo_isKept mo_pe mo_hm mo_draft mo_dp mo_dh mo_toldLines mo_highest mo_tape mo_tl mo_ps mo_fr mo_sort mo_value mo_ft mo_wrongAt mo_row mo_orderMany mo_fo mo_lightest mo_heaviest mo_before mo_justSum mo_toldSum mo_allWays mo_lanes mo_sizes mo_cells mo_torn mo_had tf 112 0 0 0 (by omega) (by omega) (by omega)) (cwV 4 hts gX8_lineNow_X8_ends rfl rfl rfl ⟨rfl, hq_X8_ends⟩ ⟨Nat.le_of_ble_eq_true rfl, Nat.le_of_ble_eq_true rfl⟩) (hs_preV hK hN (hs_subP (w := [_, _]) hP [0, 1] rfl) (hD.sub (ws' := [_, _]) [0, 1] (hs_upnd rfl) rfl) (ci := 7) (q0 := 0) rfl rfl) rfl rfl hl.1 rfl (lv_room (Nat.le_of_ble_eq_true rfl)) dX8_lineNow_199 ⟨Nat.le_of_ble_eq_true rfl, Nat.le_of_ble_eq_true rfl⟩) hP hD hS hA [false, false] [] [_, _] rfl [0, 1] rfl [0, 1] (fun u_23 => [_, _]) (fun _ => rfl) (hs_upnd rfl) [false, false] (fun u_23 => [_, _]) (fun _ => rfl) (fun r_21 u_23 H locs hw_22 hP hD hS => ?_)
                  refine hs_topi (hsb (hEn tf mo_tl mo_fr 112 0 0 0)) hw_22 ?_
                  refine lv_if_eq (tgt := 208) hx hb dX8_lineNow_202 rfl (fun c_24 => ?_) (fun c_24 => ?_)
                  · exact kn208 () (hw_no5 (by omega) (by omega) (by omega) (Or.inr (hs_n0 c_24))) _ _ _ hP hD hS (lv_sub hl [0] rfl)
                  · refine lv_bipush (v := 6) hx hb dX8_lineNow_205 hkb_6 ?_
                    exact hs_iret hx hb hr hlocks hK hP hD hS () [0, 1] rfl (hs_upnd rfl) dX8_lineNow_207 (Or.inr ⟨5, by decide, hw_yes5 (by omega) (by omega) (by omega) (hs_nb c_20) (hs_nb c_24), rfl⟩)
            · refine lv_aload_n hx hb dX8_lineNow_150 rfl (lv_at hl 0 rfl) ?_
              refine lv_iconst (v := 5) hx hb dX8_lineNow_151 hki_5 ?_
              refine lv_bipush (v := 116) hx hb dX8_lineNow_152 hkb_116 ?_
              refine lv_bipush (v := 104) hx hb dX8_lineNow_154 hkb_104 ?_
              refine lv_bipush (v := 105) hx hb dX8_lineNow_156 hkb_105 ?_
              refine hs_ciM (va_runV (As := [.int 5, .int 116, .int 104, .int 105]) (rest := []) ⟨hx, hb, hml, hown, hts⟩ (gr_is l D k _ mo mo_st mo_at mo_isKept mo_pe mo_hm mo_draft mo_dp mo_dh mo_toldLines mo_highest mo_tape mo_tl mo_ps mo_fr mo_sort mo_value mo_ft mo_wrongAt mo_row mo_orderMany mo_fo mo_lightest mo_heaviest mo_before mo_justSum mo_toldSum mo_allWays mo_lanes mo_sizes mo_cells mo_torn mo_had tf 5 116 104 105 (by omega) (by omega) (by omega)) (cwV 4 hts gX8_lineNow_X8_is rfl rfl rfl ⟨rfl, hq_X8_is⟩ ⟨Nat.le_of_ble_eq_true rfl, Nat.le_of_ble_eq_true rfl⟩) (hs_preV hK hN (hs_subP (w := [_, _]) hP [0, 1] rfl) (hD.sub (ws' := [_, _]) [0, 1] (hs_upnd rfl) rfl) (ci := 7) (q0 := 0) rfl rfl) rfl rfl hl.1 rfl (lv_room (Nat.le_of_ble_eq_true rfl)) dX8_lineNow_158 ⟨Nat.le_of_ble_eq_true rfl, Nat.le_of_ble_eq_true rfl⟩) hP hD hS hA [false, false] [] [_, _] rfl [0, 1] rfl [0, 1] (fun u_27 => [_, _]) (fun _ => rfl) (hs_upnd rfl) [false, false] (fun u_27 => [_, _]) (fun _ => rfl) (fun r_25 u_27 H locs hw_26 hP hD hS => ?_)
              refine hs_topi (hsb (hIs tf mo_tl mo_fr mo_ps 5 116 104 105)) hw_26 ?_
              refine lv_if_eq (tgt := 179) hx hb dX8_lineNow_161 rfl (fun c_28 => ?_) (fun c_28 => ?_)
              · exact kn179 () (hw_no4 (by omega) (by omega) (by omega) (Or.inl (hs_n0 c_28))) _ _ _ hP hD hS (lv_sub hl [0] rfl)
              · refine lv_aload_n hx hb dX8_lineNow_164 rfl (lv_at hl 0 rfl) ?_
                refine lv_bipush (v := 110) hx hb dX8_lineNow_165 hkb_110 ?_
                refine lv_bipush (v := 103) hx hb dX8_lineNow_167 hkb_103 ?_
                refine lv_iconst (v := 0) hx hb dX8_lineNow_169 hki_0 ?_
                refine lv_iconst (v := 0) hx hb dX8_lineNow_170 hki_0 ?_
                refine hs_ciM (va_runV (As := [.int 110, .int 103, .int 0, .int 0]) (rest := []) ⟨hx, hb, hml, hown, hts⟩ (gr_ends l D k _ mo mo_st mo_at mo_isKept mo_pe mo_hm mo_draft mo_dp mo_dh mo_toldLines mo_highest mo_tape mo_tl mo_ps mo_fr mo_sort mo_value mo_ft mo_wrongAt mo_row mo_orderMany mo_fo mo_lightest mo_heaviest mo_before mo_justSum mo_toldSum mo_allWays mo_lanes mo_sizes mo_cells mo_torn mo_had tf 110 103 0 0 (by omega) (by omega) (by omega)) (cwV 4 hts gX8_lineNow_X8_ends rfl rfl rfl ⟨rfl, hq_X8_ends⟩ ⟨Nat.le_of_ble_eq_true rfl, Nat.le_of_ble_eq_true rfl⟩) (hs_preV hK hN (hs_subP (w := [_, _]) hP [0, 1] rfl) (hD.sub (ws' := [_, _]) [0, 1] (hs_upnd rfl) rfl) (ci := 7) (q0 := 0) rfl rfl) rfl rfl hl.1 rfl (lv_room (Nat.le_of_ble_eq_true rfl)) dX8_lineNow_171 ⟨Nat.le_of_ble_eq_true rfl, Nat.le_of_ble_eq_true rfl⟩) hP hD hS hA [false, false] [] [_, _] rfl [0, 1] rfl [0, 1] (fun u_31 => [_, _]) (fun _ => rfl) (hs_upnd rfl) [false, false] (fun u_31 => [_, _]) (fun _ => rfl) (fun r_29 u_31 H locs hw_30 hP hD hS => ?_)
                refine hs_topi (hsb (hEn tf mo_tl mo_fr 110 103 0 0)) hw_30 ?_
                refine lv_if_eq (tgt := 179) hx hb dX8_lineNow_174 rfl (fun c_32 => ?_) (fun c_32 => ?_)
                · exact kn179 () (hw_no4 (by omega) (by omega) (by omega) (Or.inr (hs_n0 c_32))) _ _ _ hP hD hS (lv_sub hl [0] rfl)
                · refine lv_iconst (v := 5) hx hb dX8_lineNow_177 hki_5 ?_
                  exact hs_iret hx hb hr hlocks hK hP hD hS () [0, 1] rfl (hs_upnd rfl) dX8_lineNow_178 (Or.inr ⟨4, by decide, hw_yes4 (by omega) (by omega) (by omega) (hs_nb c_28) (hs_nb c_32), rfl⟩)
          · refine lv_aload_n hx hb dX8_lineNow_118 rfl (lv_at hl 0 rfl) ?_
            refine lv_bipush (v := 7) hx hb dX8_lineNow_119 hkb_7 ?_
            refine lv_bipush (v := 108) hx hb dX8_lineNow_121 hkb_108 ?_
            refine lv_bipush (v := 105) hx hb dX8_lineNow_123 hkb_105 ?_
            refine lv_bipush (v := 103) hx hb dX8_lineNow_125 hkb_103 ?_
            refine hs_ciM (va_runV (As := [.int 7, .int 108, .int 105, .int 103]) (rest := []) ⟨hx, hb, hml, hown, hts⟩ (gr_is l D k _ mo mo_st mo_at mo_isKept mo_pe mo_hm mo_draft mo_dp mo_dh mo_toldLines mo_highest mo_tape mo_tl mo_ps mo_fr mo_sort mo_value mo_ft mo_wrongAt mo_row mo_orderMany mo_fo mo_lightest mo_heaviest mo_before mo_justSum mo_toldSum mo_allWays mo_lanes mo_sizes mo_cells mo_torn mo_had tf 7 108 105 103 (by omega) (by omega) (by omega)) (cwV 4 hts gX8_lineNow_X8_is rfl rfl rfl ⟨rfl, hq_X8_is⟩ ⟨Nat.le_of_ble_eq_true rfl, Nat.le_of_ble_eq_true rfl⟩) (hs_preV hK hN (hs_subP (w := [_, _]) hP [0, 1] rfl) (hD.sub (ws' := [_, _]) [0, 1] (hs_upnd rfl) rfl) (ci := 7) (q0 := 0) rfl rfl) rfl rfl hl.1 rfl (lv_room (Nat.le_of_ble_eq_true rfl)) dX8_lineNow_127 ⟨Nat.le_of_ble_eq_true rfl, Nat.le_of_ble_eq_true rfl⟩) hP hD hS hA [false, false] [] [_, _] rfl [0, 1] rfl [0, 1] (fun u_35 => [_, _]) (fun _ => rfl) (hs_upnd rfl) [false, false] (fun u_35 => [_, _]) (fun _ => rfl) (fun r_33 u_35 H locs hw_34 hP hD hS => ?_)
            refine hs_topi (hsb (hIs tf mo_tl mo_fr mo_ps 7 108 105 103)) hw_34 ?_
            refine lv_if_eq (tgt := 150) hx hb dX8_lineNow_130 rfl (fun c_36 => ?_) (fun c_36 => ?_)
            · exact kn150 () (hw_no8 (by omega) (by omega) (by omega) (Or.inl (hs_n0 c_36))) _ _ _ hP hD hS (lv_sub hl [0] rfl)
            · refine lv_aload_n hx hb dX8_lineNow_133 rfl (lv_at hl 0 rfl) ?_
              refine lv_bipush (v := 104) hx hb dX8_lineNow_134 hkb_104 ?_
              refine lv_bipush (v := 116) hx hb dX8_lineNow_136 hkb_116 ?_
              refine lv_bipush (v := 101) hx hb dX8_lineNow_138 hkb_101 ?_
              refine lv_bipush (v := 114) hx hb dX8_lineNow_140 hkb_114 ?_
              refine hs_ciM (va_runV (As := [.int 104, .int 116, .int 101, .int 114]) (rest := []) ⟨hx, hb, hml, hown, hts⟩ (gr_ends l D k _ mo mo_st mo_at mo_isKept mo_pe mo_hm mo_draft mo_dp mo_dh mo_toldLines mo_highest mo_tape mo_tl mo_ps mo_fr mo_sort mo_value mo_ft mo_wrongAt mo_row mo_orderMany mo_fo mo_lightest mo_heaviest mo_before mo_justSum mo_toldSum mo_allWays mo_lanes mo_sizes mo_cells mo_torn mo_had tf 104 116 101 114 (by omega) (by omega) (by omega)) (cwV 4 hts gX8_lineNow_X8_ends rfl rfl rfl ⟨rfl, hq_X8_ends⟩ ⟨Nat.le_of_ble_eq_true rfl, Nat.le_of_ble_eq_true rfl⟩) (hs_preV hK hN (hs_subP (w := [_, _]) hP [0, 1] rfl) (hD.sub (ws' := [_, _]) [0, 1] (hs_upnd rfl) rfl) (ci := 7) (q0 := 0) rfl rfl) rfl rfl hl.1 rfl (lv_room (Nat.le_of_ble_eq_true rfl)) dX8_lineNow_142 ⟨Nat.le_of_ble_eq_true rfl, Nat.le_of_ble_eq_true rfl⟩) hP hD hS hA [false, false] [] [_, _] rfl [0, 1] rfl [0, 1] (fun u_39 => [_, _]) (fun _ => rfl) (hs_upnd rfl) [false, false] (fun u_39 => [_, _]) (fun _ => rfl) (fun r_37 u_39 H locs hw_38 hP hD hS => ?_)
              refine hs_topi (hsb (hEn tf mo_tl mo_fr 104 116 101 114)) hw_38 ?_
              refine lv_if_eq (tgt := 150) hx hb dX8_lineNow_145 rfl (fun c_40 => ?_) (fun c_40 => ?_)
              · exact kn150 () (hw_no8 (by omega) (by omega) (by omega) (Or.inr (hs_n0 c_40))) _ _ _ hP hD hS (lv_sub hl [0] rfl)
              · refine lv_iconst (v := 4) hx hb dX8_lineNow_148 hki_4 ?_
                exact hs_iret hx hb hr hlocks hK hP hD hS () [0, 1] rfl (hs_upnd rfl) dX8_lineNow_149 (Or.inr ⟨8, by decide, hw_yes8 (by omega) (by omega) (by omega) (hs_nb c_36) (hs_nb c_40), rfl⟩)
        · refine lv_aload_n hx hb dX8_lineNow_87 rfl (lv_at hl 0 rfl) ?_
          refine lv_bipush (v := 6) hx hb dX8_lineNow_88 hkb_6 ?_
          refine lv_bipush (v := 100) hx hb dX8_lineNow_90 hkb_100 ?_
          refine lv_bipush (v := 101) hx hb dX8_lineNow_92 hkb_101 ?_
          refine lv_bipush (v := 97) hx hb dX8_lineNow_94 hkb_97 ?_
          refine hs_ciM (va_runV (As := [.int 6, .int 100, .int 101, .int 97]) (rest := []) ⟨hx, hb, hml, hown, hts⟩ (gr_is l D k _ mo mo_st mo_at mo_isKept mo_pe mo_hm mo_draft mo_dp mo_dh mo_toldLines mo_highest mo_tape mo_tl mo_ps mo_fr mo_sort mo_value mo_ft mo_wrongAt mo_row mo_orderMany mo_fo mo_lightest mo_heaviest mo_before mo_justSum mo_toldSum mo_allWays mo_lanes mo_sizes mo_cells mo_torn mo_had tf 6 100 101 97 (by omega) (by omega) (by omega)) (cwV 4 hts gX8_lineNow_X8_is rfl rfl rfl ⟨rfl, hq_X8_is⟩ ⟨Nat.le_of_ble_eq_true rfl, Nat.le_of_ble_eq_true rfl⟩) (hs_preV hK hN (hs_subP (w := [_, _]) hP [0, 1] rfl) (hD.sub (ws' := [_, _]) [0, 1] (hs_upnd rfl) rfl) (ci := 7) (q0 := 0) rfl rfl) rfl rfl hl.1 rfl (lv_room (Nat.le_of_ble_eq_true rfl)) dX8_lineNow_96 ⟨Nat.le_of_ble_eq_true rfl, Nat.le_of_ble_eq_true rfl⟩) hP hD hS hA [false, false] [] [_, _] rfl [0, 1] rfl [0, 1] (fun u_43 => [_, _]) (fun _ => rfl) (hs_upnd rfl) [false, false] (fun u_43 => [_, _]) (fun _ => rfl) (fun r_41 u_43 H locs hw_42 hP hD hS => ?_)
          refine hs_topi (hsb (hIs tf mo_tl mo_fr mo_ps 6 100 101 97)) hw_42 ?_
          refine lv_if_eq (tgt := 118) hx hb dX8_lineNow_99 rfl (fun c_44 => ?_) (fun c_44 => ?_)
          · exact kn118 () (hw_no3 (by omega) (by omega) (by omega) (Or.inl (hs_n0 c_44))) _ _ _ hP hD hS (lv_sub hl [0] rfl)
          · refine lv_aload_n hx hb dX8_lineNow_102 rfl (lv_at hl 0 rfl) ?_
            refine lv_bipush (v := 108) hx hb dX8_lineNow_103 hkb_108 ?_
            refine lv_bipush (v := 101) hx hb dX8_lineNow_105 hkb_101 ?_
            refine lv_bipush (v := 114) hx hb dX8_lineNow_107 hkb_114 ?_
            refine lv_iconst (v := 0) hx hb dX8_lineNow_109 hki_0 ?_
            refine hs_ciM (va_runV (As := [.int 108, .int 101, .int 114, .int 0]) (rest := []) ⟨hx, hb, hml, hown, hts⟩ (gr_ends l D k _ mo mo_st mo_at mo_isKept mo_pe mo_hm mo_draft mo_dp mo_dh mo_toldLines mo_highest mo_tape mo_tl mo_ps mo_fr mo_sort mo_value mo_ft mo_wrongAt mo_row mo_orderMany mo_fo mo_lightest mo_heaviest mo_before mo_justSum mo_toldSum mo_allWays mo_lanes mo_sizes mo_cells mo_torn mo_had tf 108 101 114 0 (by omega) (by omega) (by omega)) (cwV 4 hts gX8_lineNow_X8_ends rfl rfl rfl ⟨rfl, hq_X8_ends⟩ ⟨Nat.le_of_ble_eq_true rfl, Nat.le_of_ble_eq_true rfl⟩) (hs_preV hK hN (hs_subP (w := [_, _]) hP [0, 1] rfl) (hD.sub (ws' := [_, _]) [0, 1] (hs_upnd rfl) rfl) (ci := 7) (q0 := 0) rfl rfl) rfl rfl hl.1 rfl (lv_room (Nat.le_of_ble_eq_true rfl)) dX8_lineNow_110 ⟨Nat.le_of_ble_eq_true rfl, Nat.le_of_ble_eq_true rfl⟩) hP hD hS hA [false, false] [] [_, _] rfl [0, 1] rfl [0, 1] (fun u_47 => [_, _]) (fun _ => rfl) (hs_upnd rfl) [false, false] (fun u_47 => [_, _]) (fun _ => rfl) (fun r_45 u_47 H locs hw_46 hP hD hS => ?_)
            refine hs_topi (hsb (hEn tf mo_tl mo_fr 108 101 114 0)) hw_46 ?_
            refine lv_if_eq (tgt := 118) hx hb dX8_lineNow_113 rfl (fun c_48 => ?_) (fun c_48 => ?_)
            · exact kn118 () (hw_no3 (by omega) (by omega) (by omega) (Or.inr (hs_n0 c_48))) _ _ _ hP hD hS (lv_sub hl [0] rfl)
            · refine lv_iconst (v := 3) hx hb dX8_lineNow_116 hki_3 ?_
              exact hs_iret hx hb hr hlocks hK hP hD hS () [0, 1] rfl (hs_upnd rfl) dX8_lineNow_117 (Or.inr ⟨3, by decide, hw_yes3 (by omega) (by omega) (by omega) (hs_nb c_44) (hs_nb c_48), rfl⟩)
      · refine lv_aload_n hx hb dX8_lineNow_58 rfl (lv_at hl 0 rfl) ?_
        refine lv_iconst (v := 5) hx hb dX8_lineNow_59 hki_5 ?_
        refine lv_bipush (v := 115) hx hb dX8_lineNow_60 hkb_115 ?_
        refine lv_bipush (v := 119) hx hb dX8_lineNow_62 hkb_119 ?_
        refine lv_bipush (v := 101) hx hb dX8_lineNow_64 hkb_101 ?_
        refine hs_ciM (va_runV (As := [.int 5, .int 115, .int 119, .int 101]) (rest := []) ⟨hx, hb, hml, hown, hts⟩ (gr_is l D k _ mo mo_st mo_at mo_isKept mo_pe mo_hm mo_draft mo_dp mo_dh mo_toldLines mo_highest mo_tape mo_tl mo_ps mo_fr mo_sort mo_value mo_ft mo_wrongAt mo_row mo_orderMany mo_fo mo_lightest mo_heaviest mo_before mo_justSum mo_toldSum mo_allWays mo_lanes mo_sizes mo_cells mo_torn mo_had tf 5 115 119 101 (by omega) (by omega) (by omega)) (cwV 4 hts gX8_lineNow_X8_is rfl rfl rfl ⟨rfl, hq_X8_is⟩ ⟨Nat.le_of_ble_eq_true rfl, Nat.le_of_ble_eq_true rfl⟩) (hs_preV hK hN (hs_subP (w := [_, _]) hP [0, 1] rfl) (hD.sub (ws' := [_, _]) [0, 1] (hs_upnd rfl) rfl) (ci := 7) (q0 := 0) rfl rfl) rfl rfl hl.1 rfl (lv_room (Nat.le_of_ble_eq_true rfl)) dX8_lineNow_66 ⟨Nat.le_of_ble_eq_true rfl, Nat.le_of_ble_eq_true rfl⟩) hP hD hS hA [false, false] [] [_, _] rfl [0, 1] rfl [0, 1] (fun u_51 => [_, _]) (fun _ => rfl) (hs_upnd rfl) [false, false] (fun u_51 => [_, _]) (fun _ => rfl) (fun r_49 u_51 H locs hw_50 hP hD hS => ?_)
        refine hs_topi (hsb (hIs tf mo_tl mo_fr mo_ps 5 115 119 101)) hw_50 ?_
        refine lv_if_eq (tgt := 87) hx hb dX8_lineNow_69 rfl (fun c_52 => ?_) (fun c_52 => ?_)
        · exact kn87 () (hw_no2 (by omega) (by omega) (by omega) (Or.inl (hs_n0 c_52))) _ _ _ hP hD hS (lv_sub hl [0] rfl)
        · refine lv_aload_n hx hb dX8_lineNow_72 rfl (lv_at hl 0 rfl) ?_
          refine lv_bipush (v := 101) hx hb dX8_lineNow_73 hkb_101 ?_
          refine lv_bipush (v := 116) hx hb dX8_lineNow_75 hkb_116 ?_
          refine lv_iconst (v := 0) hx hb dX8_lineNow_77 hki_0 ?_
          refine lv_iconst (v := 0) hx hb dX8_lineNow_78 hki_0 ?_
          refine hs_ciM (va_runV (As := [.int 101, .int 116, .int 0, .int 0]) (rest := []) ⟨hx, hb, hml, hown, hts⟩ (gr_ends l D k _ mo mo_st mo_at mo_isKept mo_pe mo_hm mo_draft mo_dp mo_dh mo_toldLines mo_highest mo_tape mo_tl mo_ps mo_fr mo_sort mo_value mo_ft mo_wrongAt mo_row mo_orderMany mo_fo mo_lightest mo_heaviest mo_before mo_justSum mo_toldSum mo_allWays mo_lanes mo_sizes mo_cells mo_torn mo_had tf 101 116 0 0 (by omega) (by omega) (by omega)) (cwV 4 hts gX8_lineNow_X8_ends rfl rfl rfl ⟨rfl, hq_X8_ends⟩ ⟨Nat.le_of_ble_eq_true rfl, Nat.le_of_ble_eq_true rfl⟩) (hs_preV hK hN (hs_subP (w := [_, _]) hP [0, 1] rfl) (hD.sub (ws' := [_, _]) [0, 1] (hs_upnd rfl) rfl) (ci := 7) (q0 := 0) rfl rfl) rfl rfl hl.1 rfl (lv_room (Nat.le_of_ble_eq_true rfl)) dX8_lineNow_79 ⟨Nat.le_of_ble_eq_true rfl, Nat.le_of_ble_eq_true rfl⟩) hP hD hS hA [false, false] [] [_, _] rfl [0, 1] rfl [0, 1] (fun u_55 => [_, _]) (fun _ => rfl) (hs_upnd rfl) [false, false] (fun u_55 => [_, _]) (fun _ => rfl) (fun r_53 u_55 H locs hw_54 hP hD hS => ?_)
          refine hs_topi (hsb (hEn tf mo_tl mo_fr 101 116 0 0)) hw_54 ?_
          refine lv_if_eq (tgt := 87) hx hb dX8_lineNow_82 rfl (fun c_56 => ?_) (fun c_56 => ?_)
          · exact kn87 () (hw_no2 (by omega) (by omega) (by omega) (Or.inr (hs_n0 c_56))) _ _ _ hP hD hS (lv_sub hl [0] rfl)
          · refine lv_iconst (v := 2) hx hb dX8_lineNow_85 hki_2 ?_
            exact hs_iret hx hb hr hlocks hK hP hD hS () [0, 1] rfl (hs_upnd rfl) dX8_lineNow_86 (Or.inr ⟨2, by decide, hw_yes2 (by omega) (by omega) (by omega) (hs_nb c_52) (hs_nb c_56), rfl⟩)
    · refine lv_aload_n hx hb dX8_lineNow_29 rfl (lv_at hl 0 rfl) ?_
      refine lv_iconst (v := 5) hx hb dX8_lineNow_30 hki_5 ?_
      refine lv_bipush (v := 99) hx hb dX8_lineNow_31 hkb_99 ?_
      refine lv_bipush (v := 104) hx hb dX8_lineNow_33 hkb_104 ?_
      refine lv_bipush (v := 105) hx hb dX8_lineNow_35 hkb_105 ?_
      refine hs_ciM (va_runV (As := [.int 5, .int 99, .int 104, .int 105]) (rest := []) ⟨hx, hb, hml, hown, hts⟩ (gr_is l D k _ mo mo_st mo_at mo_isKept mo_pe mo_hm mo_draft mo_dp mo_dh mo_toldLines mo_highest mo_tape mo_tl mo_ps mo_fr mo_sort mo_value mo_ft mo_wrongAt mo_row mo_orderMany mo_fo mo_lightest mo_heaviest mo_before mo_justSum mo_toldSum mo_allWays mo_lanes mo_sizes mo_cells mo_torn mo_had tf 5 99 104 105 (by omega) (by omega) (by omega)) (cwV 4 hts gX8_lineNow_X8_is rfl rfl rfl ⟨rfl, hq_X8_is⟩ ⟨Nat.le_of_ble_eq_true rfl, Nat.le_of_ble_eq_true rfl⟩) (hs_preV hK hN (hs_subP (w := [_, _]) hP [0, 1] rfl) (hD.sub (ws' := [_, _]) [0, 1] (hs_upnd rfl) rfl) (ci := 7) (q0 := 0) rfl rfl) rfl rfl hl.1 rfl (lv_room (Nat.le_of_ble_eq_true rfl)) dX8_lineNow_37 ⟨Nat.le_of_ble_eq_true rfl, Nat.le_of_ble_eq_true rfl⟩) hP hD hS hA [false, false] [] [_, _] rfl [0, 1] rfl [0, 1] (fun u_59 => [_, _]) (fun _ => rfl) (hs_upnd rfl) [false, false] (fun u_59 => [_, _]) (fun _ => rfl) (fun r_57 u_59 H locs hw_58 hP hD hS => ?_)
      refine hs_topi (hsb (hIs tf mo_tl mo_fr mo_ps 5 99 104 105)) hw_58 ?_
      refine lv_if_eq (tgt := 58) hx hb dX8_lineNow_40 rfl (fun c_60 => ?_) (fun c_60 => ?_)
      · exact kn58 () (hw_no1 (by omega) (by omega) (by omega) (Or.inl (hs_n0 c_60))) _ _ _ hP hD hS (lv_sub hl [0] rfl)
      · refine lv_aload_n hx hb dX8_lineNow_43 rfl (lv_at hl 0 rfl) ?_
        refine lv_bipush (v := 108) hx hb dX8_lineNow_44 hkb_108 ?_
        refine lv_bipush (v := 100) hx hb dX8_lineNow_46 hkb_100 ?_
        refine lv_iconst (v := 0) hx hb dX8_lineNow_48 hki_0 ?_
        refine lv_iconst (v := 0) hx hb dX8_lineNow_49 hki_0 ?_
        refine hs_ciM (va_runV (As := [.int 108, .int 100, .int 0, .int 0]) (rest := []) ⟨hx, hb, hml, hown, hts⟩ (gr_ends l D k _ mo mo_st mo_at mo_isKept mo_pe mo_hm mo_draft mo_dp mo_dh mo_toldLines mo_highest mo_tape mo_tl mo_ps mo_fr mo_sort mo_value mo_ft mo_wrongAt mo_row mo_orderMany mo_fo mo_lightest mo_heaviest mo_before mo_justSum mo_toldSum mo_allWays mo_lanes mo_sizes mo_cells mo_torn mo_had tf 108 100 0 0 (by omega) (by omega) (by omega)) (cwV 4 hts gX8_lineNow_X8_ends rfl rfl rfl ⟨rfl, hq_X8_ends⟩ ⟨Nat.le_of_ble_eq_true rfl, Nat.le_of_ble_eq_true rfl⟩) (hs_preV hK hN (hs_subP (w := [_, _]) hP [0, 1] rfl) (hD.sub (ws' := [_, _]) [0, 1] (hs_upnd rfl) rfl) (ci := 7) (q0 := 0) rfl rfl) rfl rfl hl.1 rfl (lv_room (Nat.le_of_ble_eq_true rfl)) dX8_lineNow_50 ⟨Nat.le_of_ble_eq_true rfl, Nat.le_of_ble_eq_true rfl⟩) hP hD hS hA [false, false] [] [_, _] rfl [0, 1] rfl [0, 1] (fun u_63 => [_, _]) (fun _ => rfl) (hs_upnd rfl) [false, false] (fun u_63 => [_, _]) (fun _ => rfl) (fun r_61 u_63 H locs hw_62 hP hD hS => ?_)
        refine hs_topi (hsb (hEn tf mo_tl mo_fr 108 100 0 0)) hw_62 ?_
        refine lv_if_eq (tgt := 58) hx hb dX8_lineNow_53 rfl (fun c_64 => ?_) (fun c_64 => ?_)
        · exact kn58 () (hw_no1 (by omega) (by omega) (by omega) (Or.inr (hs_n0 c_64))) _ _ _ hP hD hS (lv_sub hl [0] rfl)
        · refine lv_iconst (v := 1) hx hb dX8_lineNow_56 hki_1 ?_
          exact hs_iret hx hb hr hlocks hK hP hD hS () [0, 1] rfl (hs_upnd rfl) dX8_lineNow_57 (Or.inr ⟨1, by decide, hw_yes1 (by omega) (by omega) (by omega) (hs_nb c_60) (hs_nb c_64), rfl⟩)
  · refine lv_aload_n hx hb dX8_lineNow_0 rfl (lv_at hl 0 rfl) ?_
    refine lv_iconst (v := 5) hx hb dX8_lineNow_1 hki_5 ?_
    refine lv_bipush (v := 112) hx hb dX8_lineNow_2 hkb_112 ?_
    refine lv_bipush (v := 108) hx hb dX8_lineNow_4 hkb_108 ?_
    refine lv_bipush (v := 97) hx hb dX8_lineNow_6 hkb_97 ?_
    refine hs_ciM (va_runV (As := [.int 5, .int 112, .int 108, .int 97]) (rest := []) ⟨hx, hb, hml, hown, hts⟩ (gr_is l D k _ mo mo_st mo_at mo_isKept mo_pe mo_hm mo_draft mo_dp mo_dh mo_toldLines mo_highest mo_tape mo_tl mo_ps mo_fr mo_sort mo_value mo_ft mo_wrongAt mo_row mo_orderMany mo_fo mo_lightest mo_heaviest mo_before mo_justSum mo_toldSum mo_allWays mo_lanes mo_sizes mo_cells mo_torn mo_had tf 5 112 108 97 (by omega) (by omega) (by omega)) (cwV 4 hts gX8_lineNow_X8_is rfl rfl rfl ⟨rfl, hq_X8_is⟩ ⟨Nat.le_of_ble_eq_true rfl, Nat.le_of_ble_eq_true rfl⟩) (hs_preV hK hN (hs_subP (w := [_, _]) hP [0, 1] rfl) (hD.sub (ws' := [_, _]) [0, 1] (hs_upnd rfl) rfl) (ci := 7) (q0 := 0) rfl rfl) rfl rfl hl.1 rfl (lv_room (Nat.le_of_ble_eq_true rfl)) dX8_lineNow_8 ⟨Nat.le_of_ble_eq_true rfl, Nat.le_of_ble_eq_true rfl⟩) hP hD hS hA [false, false] [] [_, _] rfl [0, 1] rfl [0, 1] (fun u_67 => [_, _]) (fun _ => rfl) (hs_upnd rfl) [false, false] (fun u_67 => [_, _]) (fun _ => rfl) (fun r_65 u_67 H locs hw_66 hP hD hS => ?_)
    refine hs_topi (hsb (hIs tf mo_tl mo_fr mo_ps 5 112 108 97)) hw_66 ?_
    refine lv_if_eq (tgt := 29) hx hb dX8_lineNow_11 rfl (fun c_68 => ?_) (fun c_68 => ?_)
    · exact kn29 () (hw_no0 (by omega) (by omega) (by omega) (Or.inl (hs_n0 c_68))) _ _ _ hP hD hS (lv_sub hl [0] rfl)
    · refine lv_aload_n hx hb dX8_lineNow_14 rfl (lv_at hl 0 rfl) ?_
      refine lv_bipush (v := 105) hx hb dX8_lineNow_15 hkb_105 ?_
      refine lv_bipush (v := 110) hx hb dX8_lineNow_17 hkb_110 ?_
      refine lv_iconst (v := 0) hx hb dX8_lineNow_19 hki_0 ?_
      refine lv_iconst (v := 0) hx hb dX8_lineNow_20 hki_0 ?_
      refine hs_ciM (va_runV (As := [.int 105, .int 110, .int 0, .int 0]) (rest := []) ⟨hx, hb, hml, hown, hts⟩ (gr_ends l D k _ mo mo_st mo_at mo_isKept mo_pe mo_hm mo_draft mo_dp mo_dh mo_toldLines mo_highest mo_tape mo_tl mo_ps mo_fr mo_sort mo_value mo_ft mo_wrongAt mo_row mo_orderMany mo_fo mo_lightest mo_heaviest mo_before mo_justSum mo_toldSum mo_allWays mo_lanes mo_sizes mo_cells mo_torn mo_had tf 105 110 0 0 (by omega) (by omega) (by omega)) (cwV 4 hts gX8_lineNow_X8_ends rfl rfl rfl ⟨rfl, hq_X8_ends⟩ ⟨Nat.le_of_ble_eq_true rfl, Nat.le_of_ble_eq_true rfl⟩) (hs_preV hK hN (hs_subP (w := [_, _]) hP [0, 1] rfl) (hD.sub (ws' := [_, _]) [0, 1] (hs_upnd rfl) rfl) (ci := 7) (q0 := 0) rfl rfl) rfl rfl hl.1 rfl (lv_room (Nat.le_of_ble_eq_true rfl)) dX8_lineNow_21 ⟨Nat.le_of_ble_eq_true rfl, Nat.le_of_ble_eq_true rfl⟩) hP hD hS hA [false, false] [] [_, _] rfl [0, 1] rfl [0, 1] (fun u_71 => [_, _]) (fun _ => rfl) (hs_upnd rfl) [false, false] (fun u_71 => [_, _]) (fun _ => rfl) (fun r_69 u_71 H locs hw_70 hP hD hS => ?_)
      refine hs_topi (hsb (hEn tf mo_tl mo_fr 105 110 0 0)) hw_70 ?_
      refine lv_if_eq (tgt := 29) hx hb dX8_lineNow_24 rfl (fun c_72 => ?_) (fun c_72 => ?_)
      · exact kn29 () (hw_no0 (by omega) (by omega) (by omega) (Or.inr (hs_n0 c_72))) _ _ _ hP hD hS (lv_sub hl [0] rfl)
      · refine lv_iconst (v := 0) hx hb dX8_lineNow_27 hki_0 ?_
        exact hs_iret hx hb hr hlocks hK hP hD hS () [0, 1] rfl (hs_upnd rfl) dX8_lineNow_28 (Or.inr ⟨0, by decide, hw_yes0 (by omega) (by omega) (by omega) (hs_nb c_68) (hs_nb c_72), rfl⟩)
