set_option maxHeartbeats 4000000 in
set_option maxRecDepth 100000 in
theorem gq_middle (l : Launch) (D : va_G) (k : Nat → ClassId) (sz : Nat) (mo : Nat) (mo_st : Nat) (mo_at : Nat) (mo_isKept : Nat) (mo_pe : Nat) (mo_hm : Nat) (mo_draft : Nat) (mo_dp : Nat) (mo_dh : Nat) (mo_toldLines : Int32) (mo_highest : Int32) (mo_tape : Nat) (mo_tl : Nat) (mo_ps : Nat) (mo_fr : Nat) (mo_sort : Int32) (mo_value : Int32) (mo_ft : Nat) (mo_wrongAt : Int32) (mo_row : Nat) (mo_orderMany : Int32) (mo_fo : Nat) (mo_lightest : Int32) (mo_heaviest : Int32) (mo_before : Nat) (mo_justSum : Int64) (mo_toldSum : Int64) (mo_allWays : Int64) (mo_lanes : Nat) (mo_sizes : Nat) (mo_cells : Nat) (mo_torn : Int32) (mo_had : Nat) (sf : Nat → Int32) (c0 : Nat) (c3 : Nat) (c4 : Nat) (af : Nat → Int32) (what : Int32) (e0 : sf 0 = nI c0) (h0 : c0 ≤ 8) (h02 : 2 ≤ c0) (e3 : sf 16 = nI c3) (h3 : c3 ≤ 8) (e4 : sf 25 = nI c4) (h4 : c4 ≤ 6) (hpe : mo_pe ≤ 4) (hm2 : 2 ≤ mo_hm) (hm5 : mo_hm ≤ 5) : MI l yX8_middle wsX8_middle ({ frames := 5, cells := 0, slots := 0, locals := 116 }) D k [.ref mo, .int what] [oq7 mo mo_st mo_at mo_isKept (nI mo_pe) (nI mo_hm) mo_draft (nI mo_dp) (nI mo_dh) mo_toldLines mo_highest mo_tape (nI mo_tl) (nI mo_ps) (nI mo_fr) mo_sort mo_value (nI mo_ft) mo_wrongAt mo_row mo_orderMany (nI mo_fo) mo_lightest mo_heaviest mo_before mo_justSum mo_toldSum mo_allWays mo_lanes mo_sizes mo_cells mo_torn mo_had, oqI k mo_st 132 (sf), oqI k mo_at 44 (af)] sz (fun (r : Int32) (u : Nat → Int32) => True) (fun (u : Nat → Int32) => [oq7 mo mo_st mo_at mo_isKept (nI mo_pe) (nI mo_hm) mo_draft (nI mo_dp) (nI mo_dh) mo_toldLines mo_highest mo_tape (nI mo_tl) (nI mo_ps) (nI mo_fr) mo_sort mo_value (nI mo_ft) mo_wrongAt mo_row mo_orderMany (nI mo_fo) mo_lightest mo_heaviest mo_before mo_justSum mo_toldSum mo_allWays mo_lanes mo_sizes mo_cells mo_torn mo_had, oqI k mo_st 132 (sf), oqI k mo_at 44 (u)]) := by
  refine Met.ofW (cc := cX8_middle) (maxL := 6) (ret := (some .int)) hpn_X8 rfl ?_
  intro p e s m args below meth c s₁ B hml hv
  obtain ⟨rfl, hsz, hP, hK, hD0, hN⟩ := hv
  have hx := B.exec
  have hb := B.bytes
  have hr := B.returns
  have hlocks := B.notSynchronized
  have hts := atoms_spec (ws := wsX8_middle) B.pre
  have hown := findClass_of_methodNamed B.named
  have hown : s.vm.findClass RX8 = some m.cls := hown
  have hiX8 : ∀ w ∈ u_ws RX8 TX8 32, w ∈ wsX8_middle := fun w9 hw9 => List.mem_cons_of_mem _ (igX8 w9 hw9)
  have fl13 := hts (.fieldLink RX8 13 "HalfScalesModel" "at" "[I") (List.mem_cons_of_mem _ (hs_inG 4 81 rfl rfl))
  subst hsz
  have hD := hD0.self (sz := s.heap.size)
  generalize hAe : va_A [oq7 mo mo_st mo_at mo_isKept (nI mo_pe) (nI mo_hm) mo_draft (nI mo_dp) (nI mo_dh) mo_toldLines mo_highest mo_tape (nI mo_tl) (nI mo_ps) (nI mo_fr) mo_sort mo_value (nI mo_ft) mo_wrongAt mo_row mo_orderMany (nI mo_fo) mo_lightest mo_heaviest mo_before mo_justSum mo_toldSum mo_allWays mo_lanes mo_sizes mo_cells mo_torn mo_had, oqI k mo_st 132 (sf), oqI k mo_at 44 (af)] s.heap.size = A at hD ⊢
  have hA : ∀ q : Nat, s.heap.size ≤ q → A q := fun q h => by rw [← hAe]; exact Or.inr h
  have hS : va_S A s.heap s.heap [] := va_S.rf
  have hl := lv_entry ([.ref mo, .int what]) (n := 6) (Nat.le_of_ble_eq_true rfl)
  rw [lg_entry_eq]
  generalize (lg_sl ([.ref mo, .int what]) ++ List.replicate (6 - (lg_sl ([.ref mo, .int what])).length) Slot.unset).toArray = ls at hl ⊢
  have hl : lv_has ls 6 [(0, .ref mo), (1, .int what)] := hl
  have hP : va_P D vwCl [oq7 mo mo_st mo_at mo_isKept (nI mo_pe) (nI mo_hm) mo_draft (nI mo_dp) (nI mo_dh) mo_toldLines mo_highest mo_tape (nI mo_tl) (nI mo_ps) (nI mo_fr) mo_sort mo_value (nI mo_ft) mo_wrongAt mo_row mo_orderMany (nI mo_fo) mo_lightest mo_heaviest mo_before mo_justSum mo_toldSum mo_allWays mo_lanes mo_sizes mo_cells mo_torn mo_had, oqI k mo_st 132 (sf), oqI k mo_at 44 (af)] s.heap := hP
  refine lv_iload_n hx hb dX8_middle_0 rfl (lv_at hl 1 rfl) ?_
  refine hs_pi (va_runS (As := [.int what]) (rest := []) ⟨hx, hb, hml, hown, hts⟩ (gm_isPart l D k _ what) (va_cwS 1 hts gX8_middle_X8_isPart rfl rfl rfl hq_X8_isPart ⟨Nat.le_of_ble_eq_true rfl, Nat.le_of_ble_eq_true rfl⟩) (hs_preS hK hN (hs_subP (w := []) hP [] rfl) (hD.sub (ws' := []) [] rfl rfl)) rfl rfl hl.1 rfl (lv_room (Nat.le_of_ble_eq_true rfl)) dX8_middle_1 ⟨Nat.le_of_ble_eq_true rfl, Nat.le_of_ble_eq_true rfl⟩) hP hD hS hA (fun r_1 u_3 H locs hw_2 hP hS => ?_)
  refine hs_topi (hsb (hsin what 0 1)) hw_2 ?_
  refine lv_if_ne (tgt := 9) hx hb dX8_middle_4 rfl (fun c_4 => ?_) (fun c_4 => ?_)
  · refine lv_aload_n hx hb dX8_middle_9 rfl (lv_at hl 0 rfl) ?_
    refine hs_cvM (va_runV (As := []) (rest := []) ⟨hx, hb, hml, hown, hts⟩ (gm_starts l D k _ mo mo_st mo_at mo_isKept mo_pe mo_hm mo_draft mo_dp mo_dh mo_toldLines mo_highest mo_tape mo_tl mo_ps mo_fr mo_sort mo_value mo_ft mo_wrongAt mo_row mo_orderMany mo_fo mo_lightest mo_heaviest mo_before mo_justSum mo_toldSum mo_allWays mo_lanes mo_sizes mo_cells mo_torn mo_had sf af) (cwV 0 hts gX8_middle_X8_starts rfl rfl rfl ⟨rfl, hq_X8_starts⟩ ⟨Nat.le_of_ble_eq_true rfl, Nat.le_of_ble_eq_true rfl⟩) (hs_preV hK hN (hs_subP (w := [_, _, _]) hP [0, 1, 2] rfl) (hD.sub (ws' := [_, _, _]) [0, 1, 2] (hs_upnd rfl) rfl) (ci := 7) (q0 := 0) rfl rfl) rfl rfl hl.1 rfl (lv_room (Nat.le_of_ble_eq_true rfl)) dX8_middle_10 ⟨Nat.le_of_ble_eq_true rfl, Nat.le_of_ble_eq_true rfl⟩) hP hD hS hA [false, false, false] [] [_, _, _] rfl [0, 1, 2] rfl [0, 1, 2] (fun u_7 => [_, _, _]) (fun _ => rfl) (hs_upnd rfl) [false, false, false] (fun u_7 => [_, _, _]) (fun _ => rfl) (fun u_7 H locs hw_6 hP hD hS => ?_)
    have hw_6 : ∀ j, j < 44 → u_7 j = sf j := hw_6
    have e0a : u_7 0 = nI c0 := (hw_6 0 (by decide)).trans e0
    have e3a : u_7 16 = nI c3 := (hw_6 16 (by decide)).trans e3
    have e4a : u_7 25 = nI c4 := (hw_6 25 (by decide)).trans e4
    have hw_6 : ∀ j, j < 44 → u_7 j = sf j := hw_6
    refine lv_iconst (v := (-1)) hx hb dX8_middle_13 hki_m1 ?_
    refine lv_istore_n (lv' := [(2, .int (-1)), (0, .ref mo), (1, .int what)]) hx hb dX8_middle_14 rfl hl (Nat.le_of_ble_eq_true rfl) rfl (fun ls hl => ?_)
    refine lv_iconst (v := 1) hx hb dX8_middle_15 hki_1 ?_
    refine lv_istore_n (lv' := [(3, .int 1), (2, .int (-1)), (0, .ref mo), (1, .int what)]) hx hb dX8_middle_16 rfl hl (Nat.le_of_ble_eq_true rfl) rfl (fun ls hl => ?_)
    refine lv_iconst (v := 1) hx hb dX8_middle_17 hki_1 ?_
    refine lv_istore (lv' := [(4, .int 1), (3, .int 1), (2, .int (-1)), (0, .ref mo), (1, .int what)]) hx hb dX8_middle_18 hl (Nat.le_of_ble_eq_true rfl) rfl (fun ls hl => ?_)
    refine hs_while (σ := Int32 × Int32 × Nat) (fun x => x.2.2 ≤ c0 + 1) (fun x => c0 + 1 - x.2.2) (fun x => [oq7 mo mo_st mo_at mo_isKept (nI mo_pe) (nI mo_hm) mo_draft (nI mo_dp) (nI mo_dh) mo_toldLines mo_highest mo_tape (nI mo_tl) (nI mo_ps) (nI mo_fr) mo_sort mo_value (nI mo_ft) mo_wrongAt mo_row mo_orderMany (nI mo_fo) mo_lightest mo_heaviest mo_before mo_justSum mo_toldSum mo_allWays mo_lanes mo_sizes mo_cells mo_torn mo_had, oqI k mo_st 132 (sf), oqI k mo_at 44 (u_7)]) (fun x => [(4, .int (nI (x.2.2))), (3, .int (x.2.1)), (2, .int (x.1)), (0, .ref mo), (1, .int what)]) ?_ ((-1), 1, 1) ?_ hP hD hS hl
    · intro x hI ih20 H locs ls hP hD hS hl
      obtain ⟨mx, fo, kk⟩ := x
      try dsimp only at hI
      have hP : va_P D vwCl [_, _, _] H := hP
      have hD : va_D A [_, _, _] := hD
      have hl : lv_has ls 6 [(4, .int (nI kk)), (3, .int fo), (2, .int mx), (0, .ref mo), (1, .int what)] := hl
      refine lv_iload hx hb dX8_middle_20 (lv_at hl 0 rfl) ?_
      refine lv_aload_n hx hb dX8_middle_22 rfl (lv_at hl 3 rfl) ?_
      refine va_get (D := D) (ci := 7) (v := .ref mo_at) (C := RX8) (T := TX8) (N := 32) hx hb hts hiX8 hown hK hP 0 rfl rfl 1 (Nat.le_of_ble_eq_true rfl) fl13 (fun _ h9 => h9) rfl dX8_middle_23 ?_
      refine lv_iconst (v := 0) hx hb dX8_middle_26 hki_0 ?_
      refine va_iald hx hb hK hP 2 0 rfl rfl (hs_in (by decide)) dX8_middle_27 ?_
      refine hs_topi (nI c0) e0a ?_
      refine lv_icmp_ge (tgt := 74) hx hb dX8_middle_28 rfl (fun c_8 => ?_) (fun c_8 => ?_)
      · have nc_8 : c0 ≤ kk := (nI_leI (a := c0) (b := kk) (by omega) (by omega)).mp c_8
        refine lv_iload_n hx hb dX8_middle_74 rfl (lv_at hl 4 rfl) ?_
        refine lv_if_ne (tgt := 82) hx hb dX8_middle_75 rfl (fun c_9 => ?_) (fun c_9 => ?_)
        · refine lv_iload_n hx hb dX8_middle_82 rfl (lv_at hl 2 rfl) ?_
          exact hs_iret hx hb hr hlocks hK hP hD hS u_7 [0, 1, 2] rfl (hs_upnd rfl) dX8_middle_83 (trivial)
        · refine lv_iload_n hx hb dX8_middle_78 rfl (lv_at hl 1 rfl) ?_
          refine lv_goto (tgt := 83) hx hb dX8_middle_79 rfl ?_
          exact hs_iret hx hb hr hlocks hK hP hD hS u_7 [0, 1, 2] rfl (hs_upnd rfl) dX8_middle_83 (trivial)
      · have nc_8 : ¬ c0 ≤ kk := fun hq9 => c_8 ((nI_leI (a := c0) (b := kk) (by omega) (by omega)).mpr hq9)
        refine lv_aload_n hx hb dX8_middle_31 rfl (lv_at hl 3 rfl) ?_
        refine lv_iload hx hb dX8_middle_32 (lv_at hl 0 rfl) ?_
        refine hs_ciM (va_runV (As := [.int (nI kk)]) (rest := []) ⟨hx, hb, hml, hown, hts⟩ (gm_justTo l D k _ mo mo_st mo_at mo_isKept mo_pe mo_hm mo_draft mo_dp mo_dh mo_toldLines mo_highest mo_tape mo_tl mo_ps mo_fr mo_sort mo_value mo_ft mo_wrongAt mo_row mo_orderMany mo_fo mo_lightest mo_heaviest mo_before mo_justSum mo_toldSum mo_allWays mo_lanes mo_sizes mo_cells mo_torn mo_had u_7 c0 (nI kk) (by first | exact e0a | exact e0) (by omega) (by omega)) (cwV 1 hts gX8_middle_X8_justTo rfl rfl rfl ⟨rfl, hq_X8_justTo⟩ ⟨Nat.le_of_ble_eq_true rfl, Nat.le_of_ble_eq_true rfl⟩) (hs_preV hK hN (hs_subP (w := [_, _]) hP [0, 2] rfl) (hD.sub (ws' := [_, _]) [0, 2] (hs_upnd rfl) rfl) (ci := 7) (q0 := 0) rfl rfl) rfl rfl hl.1 rfl (lv_room (Nat.le_of_ble_eq_true rfl)) dX8_middle_34 ⟨Nat.le_of_ble_eq_true rfl, Nat.le_of_ble_eq_true rfl⟩) hP hD hS hA [false, true, false] [_] [_, _] rfl [0, 1] rfl [0, 1] (fun u_12 => [_, _]) (fun _ => rfl) (hs_upnd rfl) [false, true, false] (fun u_12 => [_, _, _]) (fun _ => rfl) (fun r_10 u_12 H locs hw_11 hP hD hS => ?_)
        refine hs_pi (va_runS (As := [.int r_10]) (rest := []) ⟨hx, hb, hml, hown, hts⟩ (gm_bitsOf l D k _ r_10) (va_cwS 1 hts gX8_middle_X8_bitsOf rfl rfl rfl hq_X8_bitsOf ⟨Nat.le_of_ble_eq_true rfl, Nat.le_of_ble_eq_true rfl⟩) (hs_preS hK hN (hs_subP (w := []) hP [] rfl) (hD.sub (ws' := []) [] rfl rfl)) rfl rfl hl.1 rfl (lv_room (Nat.le_of_ble_eq_true rfl)) dX8_middle_37 ⟨Nat.le_of_ble_eq_true rfl, Nat.le_of_ble_eq_true rfl⟩) hP hD hS hA (fun r_13 u_15 H locs hw_14 hP hS => ?_)
        refine lv_istore (lv' := [(5, .int r_13), (4, .int (nI kk)), (3, .int fo), (2, .int mx), (0, .ref mo), (1, .int what)]) hx hb dX8_middle_40 hl (Nat.le_of_ble_eq_true rfl) rfl (fun ls hl => ?_)
        refine lv_iload hx hb dX8_middle_42 (lv_at hl 0 rfl) ?_
        refine lv_iload_n hx hb dX8_middle_44 rfl (lv_at hl 3 rfl) ?_
        refine lv_icmp_le (tgt := 53) hx hb dX8_middle_45 rfl (fun c_16 => ?_) (fun c_16 => ?_)
        · refine lv_iload_n hx hb dX8_middle_53 rfl (lv_at hl 2 rfl) ?_
          refine lv_istore_n (lv' := [(3, .int fo), (5, .int r_13), (4, .int (nI kk)), (2, .int mx), (0, .ref mo), (1, .int what)]) hx hb dX8_middle_54 rfl hl (Nat.le_of_ble_eq_true rfl) rfl (fun ls hl => ?_)
          refine lv_iload hx hb dX8_middle_55 (lv_at hl 1 rfl) ?_
          refine lv_iload_n hx hb dX8_middle_57 rfl (lv_at hl 3 rfl) ?_
          refine lv_icmp_le (tgt := 66) hx hb dX8_middle_58 rfl (fun c_17 => ?_) (fun c_17 => ?_)
          · refine lv_iload_n hx hb dX8_middle_66 rfl (lv_at hl 3 rfl) ?_
            refine lv_istore_n (lv' := [(2, .int mx), (3, .int fo), (5, .int r_13), (4, .int (nI kk)), (0, .ref mo), (1, .int what)]) hx hb dX8_middle_67 rfl hl (Nat.le_of_ble_eq_true rfl) rfl (fun ls hl => ?_)
            refine lv_iinc (v := nI (kk + 1)) (lv' := [(4, .int (nI (kk + 1))), (2, .int mx), (3, .int fo), (5, .int r_13), (0, .ref mo), (1, .int what)]) hx hb dX8_middle_68 hl (k := 3) rfl (nI_add (kk) 1) (Nat.le_of_ble_eq_true rfl) rfl (fun ls hl => ?_)
            refine lv_goto (tgt := 20) hx hb dX8_middle_71 rfl ?_
            exact ih20 (mx, fo, kk + 1) (by (try dsimp only); first | omega | (refine ⟨?_, ?_⟩ <;> first | omega | assumption)) (by (try dsimp only); omega) _ _ _ hP hD hS (lv_sub hl [0, 2, 1, 4, 5] rfl)
          · refine lv_iload hx hb dX8_middle_61 (lv_at hl 1 rfl) ?_
            refine lv_goto (tgt := 67) hx hb dX8_middle_63 rfl ?_
            refine lv_istore_n (lv' := [(2, .int r_13), (3, .int fo), (5, .int r_13), (4, .int (nI kk)), (0, .ref mo), (1, .int what)]) hx hb dX8_middle_67 rfl hl (Nat.le_of_ble_eq_true rfl) rfl (fun ls hl => ?_)
            refine lv_iinc (v := nI (kk + 1)) (lv' := [(4, .int (nI (kk + 1))), (2, .int r_13), (3, .int fo), (5, .int r_13), (0, .ref mo), (1, .int what)]) hx hb dX8_middle_68 hl (k := 3) rfl (nI_add (kk) 1) (Nat.le_of_ble_eq_true rfl) rfl (fun ls hl => ?_)
            refine lv_goto (tgt := 20) hx hb dX8_middle_71 rfl ?_
            exact ih20 (r_13, fo, kk + 1) (by (try dsimp only); first | omega | (refine ⟨?_, ?_⟩ <;> first | omega | assumption)) (by (try dsimp only); omega) _ _ _ hP hD hS (lv_sub hl [0, 2, 1, 4, 5] rfl)
        · refine lv_iload hx hb dX8_middle_48 (lv_at hl 1 rfl) ?_
          refine lv_goto (tgt := 54) hx hb dX8_middle_50 rfl ?_
          refine lv_istore_n (lv' := [(3, .int (nI kk)), (5, .int r_13), (4, .int (nI kk)), (2, .int mx), (0, .ref mo), (1, .int what)]) hx hb dX8_middle_54 rfl hl (Nat.le_of_ble_eq_true rfl) rfl (fun ls hl => ?_)
          refine lv_iload hx hb dX8_middle_55 (lv_at hl 1 rfl) ?_
          refine lv_iload_n hx hb dX8_middle_57 rfl (lv_at hl 3 rfl) ?_
          refine lv_icmp_le (tgt := 66) hx hb dX8_middle_58 rfl (fun c_18 => ?_) (fun c_18 => ?_)
          · refine lv_iload_n hx hb dX8_middle_66 rfl (lv_at hl 3 rfl) ?_
            refine lv_istore_n (lv' := [(2, .int mx), (3, .int (nI kk)), (5, .int r_13), (4, .int (nI kk)), (0, .ref mo), (1, .int what)]) hx hb dX8_middle_67 rfl hl (Nat.le_of_ble_eq_true rfl) rfl (fun ls hl => ?_)
            refine lv_iinc (v := nI (kk + 1)) (lv' := [(4, .int (nI (kk + 1))), (2, .int mx), (3, .int (nI kk)), (5, .int r_13), (0, .ref mo), (1, .int what)]) hx hb dX8_middle_68 hl (k := 3) rfl (nI_add (kk) 1) (Nat.le_of_ble_eq_true rfl) rfl (fun ls hl => ?_)
            refine lv_goto (tgt := 20) hx hb dX8_middle_71 rfl ?_
            exact ih20 (mx, nI kk, kk + 1) (by (try dsimp only); first | omega | (refine ⟨?_, ?_⟩ <;> first | omega | assumption)) (by (try dsimp only); omega) _ _ _ hP hD hS (lv_sub hl [0, 2, 1, 4, 5] rfl)
          · refine lv_iload hx hb dX8_middle_61 (lv_at hl 1 rfl) ?_
            refine lv_goto (tgt := 67) hx hb dX8_middle_63 rfl ?_
            refine lv_istore_n (lv' := [(2, .int r_13), (3, .int (nI kk)), (5, .int r_13), (4, .int (nI kk)), (0, .ref mo), (1, .int what)]) hx hb dX8_middle_67 rfl hl (Nat.le_of_ble_eq_true rfl) rfl (fun ls hl => ?_)
            refine lv_iinc (v := nI (kk + 1)) (lv' := [(4, .int (nI (kk + 1))), (2, .int r_13), (3, .int (nI kk)), (5, .int r_13), (0, .ref mo), (1, .int what)]) hx hb dX8_middle_68 hl (k := 3) rfl (nI_add (kk) 1) (Nat.le_of_ble_eq_true rfl) rfl (fun ls hl => ?_)
            refine lv_goto (tgt := 20) hx hb dX8_middle_71 rfl ?_
            exact ih20 (r_13, nI kk, kk + 1) (by (try dsimp only); first | omega | (refine ⟨?_, ?_⟩ <;> first | omega | assumption)) (by (try dsimp only); omega) _ _ _ hP hD hS (lv_sub hl [0, 2, 1, 4, 5] rfl)
    · (try dsimp only); first | omega | (refine ⟨?_, ?_⟩ <;> first | omega | assumption)
  · refine lv_iconst (v := (-1)) hx hb dX8_middle_7 hki_m1 ?_
    exact hs_iret hx hb hr hlocks hK hP hD hS af [0, 1, 2] rfl (hs_upnd rfl) dX8_middle_8 (trivial)

set_option maxHeartbeats 4000000 in
set_option maxRecDepth 100000 in
theorem gq_chosen (l : Launch) (D : va_G) (k : Nat → ClassId) (sz : Nat) (mo : Nat) (mo_st : Nat) (mo_at : Nat) (mo_isKept : Nat) (mo_pe : Nat) (mo_hm : Nat) (mo_draft : Nat) (mo_dp : Nat) (mo_dh : Nat) (mo_toldLines : Int32) (mo_highest : Int32) (mo_tape : Nat) (mo_tl : Nat) (mo_ps : Nat) (mo_fr : Nat) (mo_sort : Int32) (mo_value : Int32) (mo_ft : Nat) (mo_wrongAt : Int32) (mo_row : Nat) (mo_orderMany : Int32) (mo_fo : Nat) (mo_lightest : Int32) (mo_heaviest : Int32) (mo_before : Nat) (mo_justSum : Int64) (mo_toldSum : Int64) (mo_allWays : Int64) (mo_lanes : Nat) (mo_sizes : Nat) (mo_cells : Nat) (mo_torn : Int32) (mo_had : Nat) (sf : Nat → Int32) (c0 : Nat) (c3 : Nat) (c4 : Nat) (af : Nat → Int32) (i : Int32) (v : Int32) (what : Int32) (e0 : sf 0 = nI c0) (h0 : c0 ≤ 8) (h02 : 2 ≤ c0) (e3 : sf 16 = nI c3) (h3 : c3 ≤ 8) (e4 : sf 25 = nI c4) (h4 : c4 ≤ 6) (hpe : mo_pe ≤ 4) (hm2 : 2 ≤ mo_hm) (hm5 : mo_hm ≤ 5) : MI l yX8_chosen wsX8_chosen ({ frames := 4, cells := 0, slots := 0, locals := 95 }) D k [.ref mo, .int i, .int v, .int what] [oq7 mo mo_st mo_at mo_isKept (nI mo_pe) (nI mo_hm) mo_draft (nI mo_dp) (nI mo_dh) mo_toldLines mo_highest mo_tape (nI mo_tl) (nI mo_ps) (nI mo_fr) mo_sort mo_value (nI mo_ft) mo_wrongAt mo_row mo_orderMany (nI mo_fo) mo_lightest mo_heaviest mo_before mo_justSum mo_toldSum mo_allWays mo_lanes mo_sizes mo_cells mo_torn mo_had, oqI k mo_st 132 (sf), oqI k mo_at 44 (af)] sz (fun (r : Int32) (u : Nat → Int32) => True) (fun (u : Nat → Int32) => [oq7 mo mo_st mo_at mo_isKept (nI mo_pe) (nI mo_hm) mo_draft (nI mo_dp) (nI mo_dh) mo_toldLines mo_highest mo_tape (nI mo_tl) (nI mo_ps) (nI mo_fr) mo_sort mo_value (nI mo_ft) mo_wrongAt mo_row mo_orderMany (nI mo_fo) mo_lightest mo_heaviest mo_before mo_justSum mo_toldSum mo_allWays mo_lanes mo_sizes mo_cells mo_torn mo_had, oqI k mo_st 132 (sf), oqI k mo_at 44 (u)]) := by
  refine Met.ofW (cc := cX8_chosen) (maxL := 6) (ret := (some .int)) hpn_X8 rfl ?_
  intro p e s m args below meth c s₁ B hml hv
  obtain ⟨rfl, hsz, hP, hK, hD0, hN⟩ := hv
  have hx := B.exec
  have hb := B.bytes
  have hr := B.returns
  have hlocks := B.notSynchronized
  have hts := atoms_spec (ws := wsX8_chosen) B.pre
  have hown := findClass_of_methodNamed B.named
  have hown : s.vm.findClass RX8 = some m.cls := hown
  have kl197 := hts (.constantLong RX8 197 (2)) (List.mem_cons_of_mem _ (hs_inG 5 86 rfl rfl))
  subst hsz
  have hD := hD0.self (sz := s.heap.size)
  generalize hAe : va_A [oq7 mo mo_st mo_at mo_isKept (nI mo_pe) (nI mo_hm) mo_draft (nI mo_dp) (nI mo_dh) mo_toldLines mo_highest mo_tape (nI mo_tl) (nI mo_ps) (nI mo_fr) mo_sort mo_value (nI mo_ft) mo_wrongAt mo_row mo_orderMany (nI mo_fo) mo_lightest mo_heaviest mo_before mo_justSum mo_toldSum mo_allWays mo_lanes mo_sizes mo_cells mo_torn mo_had, oqI k mo_st 132 (sf), oqI k mo_at 44 (af)] s.heap.size = A at hD ⊢
  have hA : ∀ q : Nat, s.heap.size ≤ q → A q := fun q h => by rw [← hAe]; exact Or.inr h
  have hS : va_S A s.heap s.heap [] := va_S.rf
  have hl := lv_entry ([.ref mo, .int i, .int v, .int what]) (n := 6) (Nat.le_of_ble_eq_true rfl)
  rw [lg_entry_eq]
  generalize (lg_sl ([.ref mo, .int i, .int v, .int what]) ++ List.replicate (6 - (lg_sl ([.ref mo, .int i, .int v, .int what])).length) Slot.unset).toArray = ls at hl ⊢
  have hl : lv_has ls 6 [(0, .ref mo), (1, .int i), (2, .int v), (3, .int what)] := hl
  have hP : va_P D vwCl [oq7 mo mo_st mo_at mo_isKept (nI mo_pe) (nI mo_hm) mo_draft (nI mo_dp) (nI mo_dh) mo_toldLines mo_highest mo_tape (nI mo_tl) (nI mo_ps) (nI mo_fr) mo_sort mo_value (nI mo_ft) mo_wrongAt mo_row mo_orderMany (nI mo_fo) mo_lightest mo_heaviest mo_before mo_justSum mo_toldSum mo_allWays mo_lanes mo_sizes mo_cells mo_torn mo_had, oqI k mo_st 132 (sf), oqI k mo_at 44 (af)] s.heap := hP
  refine lv_aload_n hx hb dX8_chosen_0 rfl (lv_at hl 0 rfl) ?_
  refine lv_iload_n hx hb dX8_chosen_1 rfl (lv_at hl 1 rfl) ?_
  refine hs_ciM (va_runV (As := [.int i]) (rest := []) ⟨hx, hb, hml, hown, hts⟩ (gm_isPerson l D k _ mo mo_st mo_at mo_isKept mo_pe mo_hm mo_draft mo_dp mo_dh mo_toldLines mo_highest mo_tape mo_tl mo_ps mo_fr mo_sort mo_value mo_ft mo_wrongAt mo_row mo_orderMany mo_fo mo_lightest mo_heaviest mo_before mo_justSum mo_toldSum mo_allWays mo_lanes mo_sizes mo_cells mo_torn mo_had i (by omega)) (cwV 1 hts gX8_chosen_X8_isPerson rfl rfl rfl ⟨rfl, hq_X8_isPerson⟩ ⟨Nat.le_of_ble_eq_true rfl, Nat.le_of_ble_eq_true rfl⟩) (hs_preV hK hN (hs_subP (w := [_]) hP [0] rfl) (hD.sub (ws' := [_]) [0] (hs_upnd rfl) rfl) (ci := 7) (q0 := 0) rfl rfl) rfl rfl hl.1 rfl (lv_room (Nat.le_of_ble_eq_true rfl)) dX8_chosen_2 ⟨Nat.le_of_ble_eq_true rfl, Nat.le_of_ble_eq_true rfl⟩) hP hD hS hA [false, true, true] [_, _] [_] rfl [0] rfl [0] (fun u_3 => [_]) (fun _ => rfl) (hs_upnd rfl) [false, true, true] (fun u_3 => [_, _, _]) (fun _ => rfl) (fun r_1 u_3 H locs hw_2 hP hD hS => ?_)
  refine hs_topi (hsb (hslt i mo_pe)) hw_2 ?_
  refine lv_if_eq (tgt := 33) hx hb dX8_chosen_5 rfl (fun c_4 => ?_) (fun c_4 => ?_)
  · refine lv_iconst (v := (-1)) hx hb dX8_chosen_33 hki_m1 ?_
    exact hs_iret hx hb hr hlocks hK hP hD hS af [0, 1, 2] rfl (hs_upnd rfl) dX8_chosen_34 (trivial)
  · obtain ⟨j_5, hj_5, rfl⟩ := hslt_ex (hs_nb c_4)
    refine lv_aload_n hx hb dX8_chosen_8 rfl (lv_at hl 0 rfl) ?_
    refine lv_iload_n hx hb dX8_chosen_9 rfl (lv_at hl 2 rfl) ?_
    refine hs_ciM (va_runV (As := [.int v]) (rest := []) ⟨hx, hb, hml, hown, hts⟩ (gm_isPerson l D k _ mo mo_st mo_at mo_isKept mo_pe mo_hm mo_draft mo_dp mo_dh mo_toldLines mo_highest mo_tape mo_tl mo_ps mo_fr mo_sort mo_value mo_ft mo_wrongAt mo_row mo_orderMany mo_fo mo_lightest mo_heaviest mo_before mo_justSum mo_toldSum mo_allWays mo_lanes mo_sizes mo_cells mo_torn mo_had v (by omega)) (cwV 1 hts gX8_chosen_X8_isPerson rfl rfl rfl ⟨rfl, hq_X8_isPerson⟩ ⟨Nat.le_of_ble_eq_true rfl, Nat.le_of_ble_eq_true rfl⟩) (hs_preV hK hN (hs_subP (w := [_]) hP [0] rfl) (hD.sub (ws' := [_]) [0] (hs_upnd rfl) rfl) (ci := 7) (q0 := 0) rfl rfl) rfl rfl hl.1 rfl (lv_room (Nat.le_of_ble_eq_true rfl)) dX8_chosen_10 ⟨Nat.le_of_ble_eq_true rfl, Nat.le_of_ble_eq_true rfl⟩) hP hD hS hA [false, true, true] [_, _] [_] rfl [0] rfl [0] (fun u_8 => [_]) (fun _ => rfl) (hs_upnd rfl) [false, true, true] (fun u_8 => [_, _, _]) (fun _ => rfl) (fun r_6 u_8 H locs hw_7 hP hD hS => ?_)
    refine hs_topi (hsb (hslt v mo_pe)) hw_7 ?_
    refine lv_if_eq (tgt := 33) hx hb dX8_chosen_13 rfl (fun c_9 => ?_) (fun c_9 => ?_)
    · refine lv_iconst (v := (-1)) hx hb dX8_chosen_33 hki_m1 ?_
      exact hs_iret hx hb hr hlocks hK hP hD hS af [0, 1, 2] rfl (hs_upnd rfl) dX8_chosen_34 (trivial)
    · obtain ⟨j_10, hj_10, rfl⟩ := hslt_ex (hs_nb c_9)
      refine lv_iload_n hx hb dX8_chosen_16 rfl (lv_at hl 1 rfl) ?_
      refine lv_iload_n hx hb dX8_chosen_17 rfl (lv_at hl 2 rfl) ?_
      refine lv_icmp_eq (tgt := 33) hx hb dX8_chosen_18 rfl (fun c_11 => ?_) (fun c_11 => ?_)
      · have nc_11 : j_5 = j_10 := (nI_eq (a := j_5) (b := j_10) (by omega) (by omega)).mp c_11
        refine lv_iconst (v := (-1)) hx hb dX8_chosen_33 hki_m1 ?_
        exact hs_iret hx hb hr hlocks hK hP hD hS af [0, 1, 2] rfl (hs_upnd rfl) dX8_chosen_34 (trivial)
      · have nc_11 : ¬ j_5 = j_10 := fun hq9 => c_11 ((nI_eq (a := j_5) (b := j_10) (by omega) (by omega)).mpr hq9)
        refine lv_iload_n hx hb dX8_chosen_21 rfl (lv_at hl 3 rfl) ?_
        refine lv_i2l hx hb dX8_chosen_22 rfl ?_
        refine lv_lconst (v := 0) hx hb dX8_chosen_23 (by decide) ?_
        refine lv_ldc2 hx hb hown kl197 dX8_chosen_24 ?_
        refine hs_pi (va_runS (As := [.long (((what) : Int32).toInt64), .long 0, .long 2]) (rest := []) ⟨hx, hb, hml, hown, hts⟩ (gm_in l D k _ what 0 2) (va_cwS 3 hts gX8_chosen_X8_in rfl rfl rfl hq_X8_in ⟨Nat.le_of_ble_eq_true rfl, Nat.le_of_ble_eq_true rfl⟩) (hs_preS hK hN (hs_subP (w := []) hP [] rfl) (hD.sub (ws' := []) [] rfl rfl)) rfl rfl hl.1 rfl (lv_room (Nat.le_of_ble_eq_true rfl)) dX8_chosen_27 ⟨Nat.le_of_ble_eq_true rfl, Nat.le_of_ble_eq_true rfl⟩) hP hD hS hA (fun r_12 u_14 H locs hw_13 hP hS => ?_)
        refine hs_topi (hsb (hsin what 0 2)) hw_13 ?_
        refine lv_if_ne (tgt := 35) hx hb dX8_chosen_30 rfl (fun c_15 => ?_) (fun c_15 => ?_)
        · refine lv_aload_n hx hb dX8_chosen_35 rfl (lv_at hl 0 rfl) ?_
          refine hs_cvM (va_runV (As := []) (rest := []) ⟨hx, hb, hml, hown, hts⟩ (gm_starts l D k _ mo mo_st mo_at mo_isKept mo_pe mo_hm mo_draft mo_dp mo_dh mo_toldLines mo_highest mo_tape mo_tl mo_ps mo_fr mo_sort mo_value mo_ft mo_wrongAt mo_row mo_orderMany mo_fo mo_lightest mo_heaviest mo_before mo_justSum mo_toldSum mo_allWays mo_lanes mo_sizes mo_cells mo_torn mo_had sf af) (cwV 0 hts gX8_chosen_X8_starts rfl rfl rfl ⟨rfl, hq_X8_starts⟩ ⟨Nat.le_of_ble_eq_true rfl, Nat.le_of_ble_eq_true rfl⟩) (hs_preV hK hN (hs_subP (w := [_, _, _]) hP [0, 1, 2] rfl) (hD.sub (ws' := [_, _, _]) [0, 1, 2] (hs_upnd rfl) rfl) (ci := 7) (q0 := 0) rfl rfl) rfl rfl hl.1 rfl (lv_room (Nat.le_of_ble_eq_true rfl)) dX8_chosen_36 ⟨Nat.le_of_ble_eq_true rfl, Nat.le_of_ble_eq_true rfl⟩) hP hD hS hA [false, false, false] [] [_, _, _] rfl [0, 1, 2] rfl [0, 1, 2] (fun u_18 => [_, _, _]) (fun _ => rfl) (hs_upnd rfl) [false, false, false] (fun u_18 => [_, _, _]) (fun _ => rfl) (fun u_18 H locs hw_17 hP hD hS => ?_)
          have hw_17 : ∀ j, j < 44 → u_18 j = sf j := hw_17
          have e0a : u_18 0 = nI c0 := (hw_17 0 (by decide)).trans e0
          have e3a : u_18 16 = nI c3 := (hw_17 16 (by decide)).trans e3
          have e4a : u_18 25 = nI c4 := (hw_17 25 (by decide)).trans e4
          have hw_17 : ∀ j, j < 44 → u_18 j = sf j := hw_17
          refine lv_aload_n hx hb dX8_chosen_39 rfl (lv_at hl 0 rfl) ?_
          refine lv_iload_n hx hb dX8_chosen_40 rfl (lv_at hl 2 rfl) ?_
          refine lv_aload_n hx hb dX8_chosen_41 rfl (lv_at hl 0 rfl) ?_
          refine lv_iload_n hx hb dX8_chosen_42 rfl (lv_at hl 1 rfl) ?_
          refine hs_ciM (va_runV (As := [.int (nI j_5)]) (rest := [.int (nI j_10), .ref mo]) ⟨hx, hb, hml, hown, hts⟩ (gm_honestCut l D k _ mo mo_st mo_at mo_isKept mo_pe mo_hm mo_draft mo_dp mo_dh mo_toldLines mo_highest mo_tape mo_tl mo_ps mo_fr mo_sort mo_value mo_ft mo_wrongAt mo_row mo_orderMany mo_fo mo_lightest mo_heaviest mo_before mo_justSum mo_toldSum mo_allWays mo_lanes mo_sizes mo_cells mo_torn mo_had u_18 c0 j_5 (by first | exact e0a | exact e0) (by omega) (by omega)) (cwV 1 hts gX8_chosen_X8_honestCut rfl rfl rfl ⟨rfl, hq_X8_honestCut⟩ ⟨Nat.le_of_ble_eq_true rfl, Nat.le_of_ble_eq_true rfl⟩) (hs_preV hK hN (hs_subP (w := [_, _]) hP [0, 2] rfl) (hD.sub (ws' := [_, _]) [0, 2] (hs_upnd rfl) rfl) (ci := 7) (q0 := 0) rfl rfl) rfl rfl hl.1 rfl (lv_room (Nat.le_of_ble_eq_true rfl)) dX8_chosen_43 ⟨Nat.le_of_ble_eq_true rfl, Nat.le_of_ble_eq_true rfl⟩) hP hD hS hA [false, true, false] [_] [_, _] rfl [0, 1] rfl [0, 1] (fun u_21 => [_, _]) (fun _ => rfl) (hs_upnd rfl) [false, true, false] (fun u_21 => [_, _, _]) (fun _ => rfl) (fun r_19 u_21 H locs hw_20 hP hD hS => ?_)
          refine hs_ciM (va_runV (As := [.int (nI j_10), .int r_19]) (rest := []) ⟨hx, hb, hml, hown, hts⟩ (gm_takenBy l D k _ mo mo_st mo_at mo_isKept mo_pe mo_hm mo_draft mo_dp mo_dh mo_toldLines mo_highest mo_tape mo_tl mo_ps mo_fr mo_sort mo_value mo_ft mo_wrongAt mo_row mo_orderMany mo_fo mo_lightest mo_heaviest mo_before mo_justSum mo_toldSum mo_allWays mo_lanes mo_sizes mo_cells mo_torn mo_had u_18 c0 j_10 r_19 (by first | exact e0a | exact e0) (by omega) (by omega)) (cwV 2 hts gX8_chosen_X8_takenBy rfl rfl rfl ⟨rfl, hq_X8_takenBy⟩ ⟨Nat.le_of_ble_eq_true rfl, Nat.le_of_ble_eq_true rfl⟩) (hs_preV hK hN (hs_subP (w := [_, _]) hP [0, 2] rfl) (hD.sub (ws' := [_, _]) [0, 2] (hs_upnd rfl) rfl) (ci := 7) (q0 := 0) rfl rfl) rfl rfl hl.1 rfl (lv_room (Nat.le_of_ble_eq_true rfl)) dX8_chosen_46 ⟨Nat.le_of_ble_eq_true rfl, Nat.le_of_ble_eq_true rfl⟩) hP hD hS hA [false, true, false] [_] [_, _] rfl [0, 1] rfl [0, 1] (fun u_24 => [_, _]) (fun _ => rfl) (hs_upnd rfl) [false, true, false] (fun u_24 => [_, _, _]) (fun _ => rfl) (fun r_22 u_24 H locs hw_23 hP hD hS => ?_)
          refine lv_istore (lv' := [(4, .int r_22), (0, .ref mo), (1, .int (nI j_5)), (2, .int (nI j_10)), (3, .int what)]) hx hb dX8_chosen_49 hl (Nat.le_of_ble_eq_true rfl) rfl (fun ls hl => ?_)
          refine lv_aload_n hx hb dX8_chosen_51 rfl (lv_at hl 1 rfl) ?_
          refine hs_ciM (va_runV (As := []) (rest := []) ⟨hx, hb, hml, hown, hts⟩ (gm_every l D k _ mo mo_st mo_at mo_isKept mo_pe mo_hm mo_draft mo_dp mo_dh mo_toldLines mo_highest mo_tape mo_tl mo_ps mo_fr mo_sort mo_value mo_ft mo_wrongAt mo_row mo_orderMany mo_fo mo_lightest mo_heaviest mo_before mo_justSum mo_toldSum mo_allWays mo_lanes mo_sizes mo_cells mo_torn mo_had u_18 c0 (by first | exact e0a | exact e0) (by omega)) (cwV 0 hts gX8_chosen_X8_every rfl rfl rfl ⟨rfl, hq_X8_every⟩ ⟨Nat.le_of_ble_eq_true rfl, Nat.le_of_ble_eq_true rfl⟩) (hs_preV hK hN (hs_subP (w := [_, _]) hP [0, 2] rfl) (hD.sub (ws' := [_, _]) [0, 2] (hs_upnd rfl) rfl) (ci := 7) (q0 := 0) rfl rfl) rfl rfl hl.1 rfl (lv_room (Nat.le_of_ble_eq_true rfl)) dX8_chosen_52 ⟨Nat.le_of_ble_eq_true rfl, Nat.le_of_ble_eq_true rfl⟩) hP hD hS hA [false, true, false] [_] [_, _] rfl [0, 1] rfl [0, 1] (fun u_27 => [_, _]) (fun _ => rfl) (hs_upnd rfl) [false, true, false] (fun u_27 => [_, _, _]) (fun _ => rfl) (fun r_25 u_27 H locs hw_26 hP hD hS => ?_)
          refine hs_topi (nI (2 ^ c0 - 1)) hw_26 ?_
          refine lv_iload hx hb dX8_chosen_55 (lv_at hl 0 rfl) ?_
          refine lv_iconst (v := (-1)) hx hb dX8_chosen_57 hki_m1 ?_
          refine lv_ixor hx hb dX8_chosen_58 ?_
          refine lv_iand hx hb dX8_chosen_59 ?_
          refine lv_istore (lv' := [(5, .int ((nI (2 ^ c0 - 1)) &&& (r_22 ^^^ (-1)))), (4, .int r_22), (0, .ref mo), (1, .int (nI j_5)), (2, .int (nI j_10)), (3, .int what)]) hx hb dX8_chosen_60 hl (Nat.le_of_ble_eq_true rfl) rfl (fun ls hl => ?_)
          refine lv_iload_n hx hb dX8_chosen_62 rfl (lv_at hl 5 rfl) ?_
          refine lv_if_ne (tgt := 76) hx hb dX8_chosen_63 rfl (fun c_28 => ?_) (fun c_28 => ?_)
          · refine lv_iload_n hx hb dX8_chosen_76 rfl (lv_at hl 5 rfl) ?_
            refine lv_iconst (v := 1) hx hb dX8_chosen_77 hki_1 ?_
            refine lv_icmp_ne (tgt := 91) hx hb dX8_chosen_78 rfl (fun c_29 => ?_) (fun c_29 => ?_)
            · refine lv_aload_n hx hb dX8_chosen_91 rfl (lv_at hl 2 rfl) ?_
              refine lv_iload_n hx hb dX8_chosen_92 rfl (lv_at hl 3 rfl) ?_
              refine lv_iload hx hb dX8_chosen_93 (lv_at hl 1 rfl) ?_
              refine hs_ciM (va_runV (As := [.int (nI j_5), .int r_22]) (rest := []) ⟨hx, hb, hml, hown, hts⟩ (gm_worthOfAll l D k _ mo mo_st mo_at mo_isKept mo_pe mo_hm mo_draft mo_dp mo_dh mo_toldLines mo_highest mo_tape mo_tl mo_ps mo_fr mo_sort mo_value mo_ft mo_wrongAt mo_row mo_orderMany mo_fo mo_lightest mo_heaviest mo_before mo_justSum mo_toldSum mo_allWays mo_lanes mo_sizes mo_cells mo_torn mo_had u_18 c0 j_5 r_22 (by first | exact e0a | exact e0) (by omega) (by omega)) (cwV 2 hts gX8_chosen_X8_worthOfAll rfl rfl rfl ⟨rfl, hq_X8_worthOfAll⟩ ⟨Nat.le_of_ble_eq_true rfl, Nat.le_of_ble_eq_true rfl⟩) (hs_preV hK hN (hs_subP (w := [_, _]) hP [0, 2] rfl) (hD.sub (ws' := [_, _]) [0, 2] (hs_upnd rfl) rfl) (ci := 7) (q0 := 0) rfl rfl) rfl rfl hl.1 rfl (lv_room (Nat.le_of_ble_eq_true rfl)) dX8_chosen_95 ⟨Nat.le_of_ble_eq_true rfl, Nat.le_of_ble_eq_true rfl⟩) hP hD hS hA [false, true, false] [_] [_, _] rfl [0, 1] rfl [0, 1] (fun u_32 => [_, _]) (fun _ => rfl) (hs_upnd rfl) [false, true, false] (fun u_32 => [_, _, _]) (fun _ => rfl) (fun r_30 u_32 H locs hw_31 hP hD hS => ?_)
              refine lv_aload_n hx hb dX8_chosen_98 rfl (lv_at hl 2 rfl) ?_
              refine lv_iload_n hx hb dX8_chosen_99 rfl (lv_at hl 3 rfl) ?_
              refine lv_iload hx hb dX8_chosen_100 (lv_at hl 0 rfl) ?_
              refine hs_ciM (va_runV (As := [.int (nI j_5), .int ((nI (2 ^ c0 - 1)) &&& (r_22 ^^^ (-1)))]) (rest := [.int r_30]) ⟨hx, hb, hml, hown, hts⟩ (gm_worthOfAll l D k _ mo mo_st mo_at mo_isKept mo_pe mo_hm mo_draft mo_dp mo_dh mo_toldLines mo_highest mo_tape mo_tl mo_ps mo_fr mo_sort mo_value mo_ft mo_wrongAt mo_row mo_orderMany mo_fo mo_lightest mo_heaviest mo_before mo_justSum mo_toldSum mo_allWays mo_lanes mo_sizes mo_cells mo_torn mo_had u_18 c0 j_5 ((nI (2 ^ c0 - 1)) &&& (r_22 ^^^ (-1))) (by first | exact e0a | exact e0) (by omega) (by omega)) (cwV 2 hts gX8_chosen_X8_worthOfAll rfl rfl rfl ⟨rfl, hq_X8_worthOfAll⟩ ⟨Nat.le_of_ble_eq_true rfl, Nat.le_of_ble_eq_true rfl⟩) (hs_preV hK hN (hs_subP (w := [_, _]) hP [0, 2] rfl) (hD.sub (ws' := [_, _]) [0, 2] (hs_upnd rfl) rfl) (ci := 7) (q0 := 0) rfl rfl) rfl rfl hl.1 rfl (lv_room (Nat.le_of_ble_eq_true rfl)) dX8_chosen_102 ⟨Nat.le_of_ble_eq_true rfl, Nat.le_of_ble_eq_true rfl⟩) hP hD hS hA [false, true, false] [_] [_, _] rfl [0, 1] rfl [0, 1] (fun u_35 => [_, _]) (fun _ => rfl) (hs_upnd rfl) [false, true, false] (fun u_35 => [_, _, _]) (fun _ => rfl) (fun r_33 u_35 H locs hw_34 hP hD hS => ?_)
              refine lv_icmp_le (tgt := 112) hx hb dX8_chosen_105 rfl (fun c_36 => ?_) (fun c_36 => ?_)
              · refine lv_iconst (v := 0) hx hb dX8_chosen_112 hki_0 ?_
                refine hs_pi (va_runS (As := [.int 0]) (rest := []) ⟨hx, hb, hml, hown, hts⟩ (gm_flag l D k _ 0) (va_cwS 1 hts gX8_chosen_X8_flag rfl rfl rfl hq_X8_flag ⟨Nat.le_of_ble_eq_true rfl, Nat.le_of_ble_eq_true rfl⟩) (hs_preS hK hN (hs_subP (w := []) hP [] rfl) (hD.sub (ws' := []) [] rfl rfl)) rfl rfl hl.1 rfl (lv_room (Nat.le_of_ble_eq_true rfl)) dX8_chosen_113 ⟨Nat.le_of_ble_eq_true rfl, Nat.le_of_ble_eq_true rfl⟩) hP hD hS hA (fun r_37 u_39 H locs hw_38 hP hS => ?_)
                exact hs_iret hx hb hr hlocks hK hP hD hS u_18 [0, 1, 2] rfl (hs_upnd rfl) dX8_chosen_116 (trivial)
              · refine lv_iconst (v := 1) hx hb dX8_chosen_108 hki_1 ?_
                refine lv_goto (tgt := 113) hx hb dX8_chosen_109 rfl ?_
                refine hs_pi (va_runS (As := [.int 1]) (rest := []) ⟨hx, hb, hml, hown, hts⟩ (gm_flag l D k _ 1) (va_cwS 1 hts gX8_chosen_X8_flag rfl rfl rfl hq_X8_flag ⟨Nat.le_of_ble_eq_true rfl, Nat.le_of_ble_eq_true rfl⟩) (hs_preS hK hN (hs_subP (w := []) hP [] rfl) (hD.sub (ws' := []) [] rfl rfl)) rfl rfl hl.1 rfl (lv_room (Nat.le_of_ble_eq_true rfl)) dX8_chosen_113 ⟨Nat.le_of_ble_eq_true rfl, Nat.le_of_ble_eq_true rfl⟩) hP hD hS hA (fun r_40 u_42 H locs hw_41 hP hS => ?_)
                exact hs_iret hx hb hr hlocks hK hP hD hS u_18 [0, 1, 2] rfl (hs_upnd rfl) dX8_chosen_116 (trivial)
            · refine lv_aload_n hx hb dX8_chosen_81 rfl (lv_at hl 2 rfl) ?_
              refine lv_iload_n hx hb dX8_chosen_82 rfl (lv_at hl 4 rfl) ?_
              refine lv_iload hx hb dX8_chosen_83 (lv_at hl 1 rfl) ?_
              refine hs_ciM (va_runV (As := [.int (nI j_10), .int r_22]) (rest := []) ⟨hx, hb, hml, hown, hts⟩ (gm_worthOfAll l D k _ mo mo_st mo_at mo_isKept mo_pe mo_hm mo_draft mo_dp mo_dh mo_toldLines mo_highest mo_tape mo_tl mo_ps mo_fr mo_sort mo_value mo_ft mo_wrongAt mo_row mo_orderMany mo_fo mo_lightest mo_heaviest mo_before mo_justSum mo_toldSum mo_allWays mo_lanes mo_sizes mo_cells mo_torn mo_had u_18 c0 j_10 r_22 (by first | exact e0a | exact e0) (by omega) (by omega)) (cwV 2 hts gX8_chosen_X8_worthOfAll rfl rfl rfl ⟨rfl, hq_X8_worthOfAll⟩ ⟨Nat.le_of_ble_eq_true rfl, Nat.le_of_ble_eq_true rfl⟩) (hs_preV hK hN (hs_subP (w := [_, _]) hP [0, 2] rfl) (hD.sub (ws' := [_, _]) [0, 2] (hs_upnd rfl) rfl) (ci := 7) (q0 := 0) rfl rfl) rfl rfl hl.1 rfl (lv_room (Nat.le_of_ble_eq_true rfl)) dX8_chosen_85 ⟨Nat.le_of_ble_eq_true rfl, Nat.le_of_ble_eq_true rfl⟩) hP hD hS hA [false, true, false] [_] [_, _] rfl [0, 1] rfl [0, 1] (fun u_45 => [_, _]) (fun _ => rfl) (hs_upnd rfl) [false, true, false] (fun u_45 => [_, _, _]) (fun _ => rfl) (fun r_43 u_45 H locs hw_44 hP hD hS => ?_)
              refine lv_goto (tgt := 116) hx hb dX8_chosen_88 rfl ?_
              exact hs_iret hx hb hr hlocks hK hP hD hS u_18 [0, 1, 2] rfl (hs_upnd rfl) dX8_chosen_116 (trivial)
          · refine lv_aload_n hx hb dX8_chosen_66 rfl (lv_at hl 2 rfl) ?_
            refine lv_iload_n hx hb dX8_chosen_67 rfl (lv_at hl 3 rfl) ?_
            refine lv_iload hx hb dX8_chosen_68 (lv_at hl 0 rfl) ?_
            refine hs_ciM (va_runV (As := [.int (nI j_5), .int ((nI (2 ^ c0 - 1)) &&& (r_22 ^^^ (-1)))]) (rest := []) ⟨hx, hb, hml, hown, hts⟩ (gm_worthOfAll l D k _ mo mo_st mo_at mo_isKept mo_pe mo_hm mo_draft mo_dp mo_dh mo_toldLines mo_highest mo_tape mo_tl mo_ps mo_fr mo_sort mo_value mo_ft mo_wrongAt mo_row mo_orderMany mo_fo mo_lightest mo_heaviest mo_before mo_justSum mo_toldSum mo_allWays mo_lanes mo_sizes mo_cells mo_torn mo_had u_18 c0 j_5 ((nI (2 ^ c0 - 1)) &&& (r_22 ^^^ (-1))) (by first | exact e0a | exact e0) (by omega) (by omega)) (cwV 2 hts gX8_chosen_X8_worthOfAll rfl rfl rfl ⟨rfl, hq_X8_worthOfAll⟩ ⟨Nat.le_of_ble_eq_true rfl, Nat.le_of_ble_eq_true rfl⟩) (hs_preV hK hN (hs_subP (w := [_, _]) hP [0, 2] rfl) (hD.sub (ws' := [_, _]) [0, 2] (hs_upnd rfl) rfl) (ci := 7) (q0 := 0) rfl rfl) rfl rfl hl.1 rfl (lv_room (Nat.le_of_ble_eq_true rfl)) dX8_chosen_70 ⟨Nat.le_of_ble_eq_true rfl, Nat.le_of_ble_eq_true rfl⟩) hP hD hS hA [false, true, false] [_] [_, _] rfl [0, 1] rfl [0, 1] (fun u_48 => [_, _]) (fun _ => rfl) (hs_upnd rfl) [false, true, false] (fun u_48 => [_, _, _]) (fun _ => rfl) (fun r_46 u_48 H locs hw_47 hP hD hS => ?_)
            refine lv_goto (tgt := 116) hx hb dX8_chosen_73 rfl ?_
            exact hs_iret hx hb hr hlocks hK hP hD hS u_18 [0, 1, 2] rfl (hs_upnd rfl) dX8_chosen_116 (trivial)
        · refine lv_iconst (v := (-1)) hx hb dX8_chosen_33 hki_m1 ?_
          exact hs_iret hx hb hr hlocks hK hP hD hS af [0, 1, 2] rfl (hs_upnd rfl) dX8_chosen_34 (trivial)

set_option maxHeartbeats 4000000 in
set_option maxRecDepth 100000 in
theorem gq_sly (l : Launch) (D : va_G) (k : Nat → ClassId) (sz : Nat) (mo : Nat) (mo_st : Nat) (mo_at : Nat) (mo_isKept : Nat) (mo_pe : Nat) (mo_hm : Nat) (mo_draft : Nat) (mo_dp : Nat) (mo_dh : Nat) (mo_toldLines : Int32) (mo_highest : Int32) (mo_tape : Nat) (mo_tl : Nat) (mo_ps : Nat) (mo_fr : Nat) (mo_sort : Int32) (mo_value : Int32) (mo_ft : Nat) (mo_wrongAt : Int32) (mo_row : Nat) (mo_orderMany : Int32) (mo_fo : Nat) (mo_lightest : Int32) (mo_heaviest : Int32) (mo_before : Nat) (mo_justSum : Int64) (mo_toldSum : Int64) (mo_allWays : Int64) (mo_lanes : Nat) (mo_sizes : Nat) (mo_cells : Nat) (mo_torn : Int32) (mo_had : Nat) (sf : Nat → Int32) (c0 : Nat) (c3 : Nat) (c4 : Nat) (af : Nat → Int32) (i : Int32) (v : Int32) (what : Int32) (e0 : sf 0 = nI c0) (h0 : c0 ≤ 8) (h02 : 2 ≤ c0) (e3 : sf 16 = nI c3) (h3 : c3 ≤ 8) (e4 : sf 25 = nI c4) (h4 : c4 ≤ 6) (hpe : mo_pe ≤ 4) (hm2 : 2 ≤ mo_hm) (hm5 : mo_hm ≤ 5) : MI l yX8_sly wsX8_sly ({ frames := 4, cells := 0, slots := 0, locals := 92 }) D k [.ref mo, .int i, .int v, .int what] [oq7 mo mo_st mo_at mo_isKept (nI mo_pe) (nI mo_hm) mo_draft (nI mo_dp) (nI mo_dh) mo_toldLines mo_highest mo_tape (nI mo_tl) (nI mo_ps) (nI mo_fr) mo_sort mo_value (nI mo_ft) mo_wrongAt mo_row mo_orderMany (nI mo_fo) mo_lightest mo_heaviest mo_before mo_justSum mo_toldSum mo_allWays mo_lanes mo_sizes mo_cells mo_torn mo_had, oqI k mo_st 132 (sf), oqI k mo_at 44 (af)] sz (fun (r : Int32) (u : Nat → Int32) => True) (fun (u : Nat → Int32) => [oq7 mo mo_st mo_at mo_isKept (nI mo_pe) (nI mo_hm) mo_draft (nI mo_dp) (nI mo_dh) mo_toldLines mo_highest mo_tape (nI mo_tl) (nI mo_ps) (nI mo_fr) mo_sort mo_value (nI mo_ft) mo_wrongAt mo_row mo_orderMany (nI mo_fo) mo_lightest mo_heaviest mo_before mo_justSum mo_toldSum mo_allWays mo_lanes mo_sizes mo_cells mo_torn mo_had, oqI k mo_st 132 (sf), oqI k mo_at 44 (u)]) := by
  refine Met.ofW (cc := cX8_sly) (maxL := 8) (ret := (some .int)) hpn_X8 rfl ?_
  intro p e s m args below meth c s₁ B hml hv
  obtain ⟨rfl, hsz, hP, hK, hD0, hN⟩ := hv
  have hx := B.exec
  have hb := B.bytes
  have hr := B.returns
  have hlocks := B.notSynchronized
  have hts := atoms_spec (ws := wsX8_sly) B.pre
  have hown := findClass_of_methodNamed B.named
  have hown : s.vm.findClass RX8 = some m.cls := hown
  have hiX8 : ∀ w ∈ u_ws RX8 TX8 32, w ∈ wsX8_sly := fun w9 hw9 => List.mem_cons_of_mem _ (igX8 w9 hw9)
  have fl13 := hts (.fieldLink RX8 13 "HalfScalesModel" "at" "[I") (List.mem_cons_of_mem _ (hs_inG 4 81 rfl rfl))
  subst hsz
  have hD := hD0.self (sz := s.heap.size)
  generalize hAe : va_A [oq7 mo mo_st mo_at mo_isKept (nI mo_pe) (nI mo_hm) mo_draft (nI mo_dp) (nI mo_dh) mo_toldLines mo_highest mo_tape (nI mo_tl) (nI mo_ps) (nI mo_fr) mo_sort mo_value (nI mo_ft) mo_wrongAt mo_row mo_orderMany (nI mo_fo) mo_lightest mo_heaviest mo_before mo_justSum mo_toldSum mo_allWays mo_lanes mo_sizes mo_cells mo_torn mo_had, oqI k mo_st 132 (sf), oqI k mo_at 44 (af)] s.heap.size = A at hD ⊢
  have hA : ∀ q : Nat, s.heap.size ≤ q → A q := fun q h => by rw [← hAe]; exact Or.inr h
  have hS : va_S A s.heap s.heap [] := va_S.rf
  have hl := lv_entry ([.ref mo, .int i, .int v, .int what]) (n := 8) (Nat.le_of_ble_eq_true rfl)
  rw [lg_entry_eq]
  generalize (lg_sl ([.ref mo, .int i, .int v, .int what]) ++ List.replicate (8 - (lg_sl ([.ref mo, .int i, .int v, .int what])).length) Slot.unset).toArray = ls at hl ⊢
  have hl : lv_has ls 8 [(0, .ref mo), (1, .int i), (2, .int v), (3, .int what)] := hl
  have hP : va_P D vwCl [oq7 mo mo_st mo_at mo_isKept (nI mo_pe) (nI mo_hm) mo_draft (nI mo_dp) (nI mo_dh) mo_toldLines mo_highest mo_tape (nI mo_tl) (nI mo_ps) (nI mo_fr) mo_sort mo_value (nI mo_ft) mo_wrongAt mo_row mo_orderMany (nI mo_fo) mo_lightest mo_heaviest mo_before mo_justSum mo_toldSum mo_allWays mo_lanes mo_sizes mo_cells mo_torn mo_had, oqI k mo_st 132 (sf), oqI k mo_at 44 (af)] s.heap := hP
  refine lv_aload_n hx hb dX8_sly_0 rfl (lv_at hl 0 rfl) ?_
  refine lv_iload_n hx hb dX8_sly_1 rfl (lv_at hl 1 rfl) ?_
  refine hs_ciM (va_runV (As := [.int i]) (rest := []) ⟨hx, hb, hml, hown, hts⟩ (gm_isPerson l D k _ mo mo_st mo_at mo_isKept mo_pe mo_hm mo_draft mo_dp mo_dh mo_toldLines mo_highest mo_tape mo_tl mo_ps mo_fr mo_sort mo_value mo_ft mo_wrongAt mo_row mo_orderMany mo_fo mo_lightest mo_heaviest mo_before mo_justSum mo_toldSum mo_allWays mo_lanes mo_sizes mo_cells mo_torn mo_had i (by omega)) (cwV 1 hts gX8_sly_X8_isPerson rfl rfl rfl ⟨rfl, hq_X8_isPerson⟩ ⟨Nat.le_of_ble_eq_true rfl, Nat.le_of_ble_eq_true rfl⟩) (hs_preV hK hN (hs_subP (w := [_]) hP [0] rfl) (hD.sub (ws' := [_]) [0] (hs_upnd rfl) rfl) (ci := 7) (q0 := 0) rfl rfl) rfl rfl hl.1 rfl (lv_room (Nat.le_of_ble_eq_true rfl)) dX8_sly_2 ⟨Nat.le_of_ble_eq_true rfl, Nat.le_of_ble_eq_true rfl⟩) hP hD hS hA [false, true, true] [_, _] [_] rfl [0] rfl [0] (fun u_3 => [_]) (fun _ => rfl) (hs_upnd rfl) [false, true, true] (fun u_3 => [_, _, _]) (fun _ => rfl) (fun r_1 u_3 H locs hw_2 hP hD hS => ?_)
  refine hs_topi (hsb (hslt i mo_pe)) hw_2 ?_
  refine lv_if_eq (tgt := 28) hx hb dX8_sly_5 rfl (fun c_4 => ?_) (fun c_4 => ?_)
  · refine lv_iconst (v := (-1)) hx hb dX8_sly_28 hki_m1 ?_
    exact hs_iret hx hb hr hlocks hK hP hD hS af [0, 1, 2] rfl (hs_upnd rfl) dX8_sly_29 (trivial)
  · obtain ⟨j_5, hj_5, rfl⟩ := hslt_ex (hs_nb c_4)
    refine lv_aload_n hx hb dX8_sly_8 rfl (lv_at hl 0 rfl) ?_
    refine lv_iload_n hx hb dX8_sly_9 rfl (lv_at hl 2 rfl) ?_
    refine hs_ciM (va_runV (As := [.int v]) (rest := []) ⟨hx, hb, hml, hown, hts⟩ (gm_isPerson l D k _ mo mo_st mo_at mo_isKept mo_pe mo_hm mo_draft mo_dp mo_dh mo_toldLines mo_highest mo_tape mo_tl mo_ps mo_fr mo_sort mo_value mo_ft mo_wrongAt mo_row mo_orderMany mo_fo mo_lightest mo_heaviest mo_before mo_justSum mo_toldSum mo_allWays mo_lanes mo_sizes mo_cells mo_torn mo_had v (by omega)) (cwV 1 hts gX8_sly_X8_isPerson rfl rfl rfl ⟨rfl, hq_X8_isPerson⟩ ⟨Nat.le_of_ble_eq_true rfl, Nat.le_of_ble_eq_true rfl⟩) (hs_preV hK hN (hs_subP (w := [_]) hP [0] rfl) (hD.sub (ws' := [_]) [0] (hs_upnd rfl) rfl) (ci := 7) (q0 := 0) rfl rfl) rfl rfl hl.1 rfl (lv_room (Nat.le_of_ble_eq_true rfl)) dX8_sly_10 ⟨Nat.le_of_ble_eq_true rfl, Nat.le_of_ble_eq_true rfl⟩) hP hD hS hA [false, true, true] [_, _] [_] rfl [0] rfl [0] (fun u_8 => [_]) (fun _ => rfl) (hs_upnd rfl) [false, true, true] (fun u_8 => [_, _, _]) (fun _ => rfl) (fun r_6 u_8 H locs hw_7 hP hD hS => ?_)
    refine hs_topi (hsb (hslt v mo_pe)) hw_7 ?_
    refine lv_if_eq (tgt := 28) hx hb dX8_sly_13 rfl (fun c_9 => ?_) (fun c_9 => ?_)
    · refine lv_iconst (v := (-1)) hx hb dX8_sly_28 hki_m1 ?_
      exact hs_iret hx hb hr hlocks hK hP hD hS af [0, 1, 2] rfl (hs_upnd rfl) dX8_sly_29 (trivial)
    · obtain ⟨j_10, hj_10, rfl⟩ := hslt_ex (hs_nb c_9)
      refine lv_iload_n hx hb dX8_sly_16 rfl (lv_at hl 1 rfl) ?_
      refine lv_iload_n hx hb dX8_sly_17 rfl (lv_at hl 2 rfl) ?_
      refine lv_icmp_eq (tgt := 28) hx hb dX8_sly_18 rfl (fun c_11 => ?_) (fun c_11 => ?_)
      · have nc_11 : j_5 = j_10 := (nI_eq (a := j_5) (b := j_10) (by omega) (by omega)).mp c_11
        refine lv_iconst (v := (-1)) hx hb dX8_sly_28 hki_m1 ?_
        exact hs_iret hx hb hr hlocks hK hP hD hS af [0, 1, 2] rfl (hs_upnd rfl) dX8_sly_29 (trivial)
      · have nc_11 : ¬ j_5 = j_10 := fun hq9 => c_11 ((nI_eq (a := j_5) (b := j_10) (by omega) (by omega)).mpr hq9)
        refine lv_iload_n hx hb dX8_sly_21 rfl (lv_at hl 3 rfl) ?_
        refine hs_pi (va_runS (As := [.int what]) (rest := []) ⟨hx, hb, hml, hown, hts⟩ (gm_isPart l D k _ what) (va_cwS 1 hts gX8_sly_X8_isPart rfl rfl rfl hq_X8_isPart ⟨Nat.le_of_ble_eq_true rfl, Nat.le_of_ble_eq_true rfl⟩) (hs_preS hK hN (hs_subP (w := []) hP [] rfl) (hD.sub (ws' := []) [] rfl rfl)) rfl rfl hl.1 rfl (lv_room (Nat.le_of_ble_eq_true rfl)) dX8_sly_22 ⟨Nat.le_of_ble_eq_true rfl, Nat.le_of_ble_eq_true rfl⟩) hP hD hS hA (fun r_12 u_14 H locs hw_13 hP hS => ?_)
        refine hs_topi (hsb (hsin what 0 1)) hw_13 ?_
        refine lv_if_ne (tgt := 30) hx hb dX8_sly_25 rfl (fun c_15 => ?_) (fun c_15 => ?_)
        · refine lv_aload_n hx hb dX8_sly_30 rfl (lv_at hl 0 rfl) ?_
          refine hs_cvM (va_runV (As := []) (rest := []) ⟨hx, hb, hml, hown, hts⟩ (gm_starts l D k _ mo mo_st mo_at mo_isKept mo_pe mo_hm mo_draft mo_dp mo_dh mo_toldLines mo_highest mo_tape mo_tl mo_ps mo_fr mo_sort mo_value mo_ft mo_wrongAt mo_row mo_orderMany mo_fo mo_lightest mo_heaviest mo_before mo_justSum mo_toldSum mo_allWays mo_lanes mo_sizes mo_cells mo_torn mo_had sf af) (cwV 0 hts gX8_sly_X8_starts rfl rfl rfl ⟨rfl, hq_X8_starts⟩ ⟨Nat.le_of_ble_eq_true rfl, Nat.le_of_ble_eq_true rfl⟩) (hs_preV hK hN (hs_subP (w := [_, _, _]) hP [0, 1, 2] rfl) (hD.sub (ws' := [_, _, _]) [0, 1, 2] (hs_upnd rfl) rfl) (ci := 7) (q0 := 0) rfl rfl) rfl rfl hl.1 rfl (lv_room (Nat.le_of_ble_eq_true rfl)) dX8_sly_31 ⟨Nat.le_of_ble_eq_true rfl, Nat.le_of_ble_eq_true rfl⟩) hP hD hS hA [false, false, false] [] [_, _, _] rfl [0, 1, 2] rfl [0, 1, 2] (fun u_18 => [_, _, _]) (fun _ => rfl) (hs_upnd rfl) [false, false, false] (fun u_18 => [_, _, _]) (fun _ => rfl) (fun u_18 H locs hw_17 hP hD hS => ?_)
          have hw_17 : ∀ j, j < 44 → u_18 j = sf j := hw_17
          have e0a : u_18 0 = nI c0 := (hw_17 0 (by decide)).trans e0
          have e3a : u_18 16 = nI c3 := (hw_17 16 (by decide)).trans e3
          have e4a : u_18 25 = nI c4 := (hw_17 25 (by decide)).trans e4
          have hw_17 : ∀ j, j < 44 → u_18 j = sf j := hw_17
          refine lv_iconst (v := (-1)) hx hb dX8_sly_34 hki_m1 ?_
          refine lv_istore (lv' := [(4, .int (-1)), (0, .ref mo), (1, .int (nI j_5)), (2, .int (nI j_10)), (3, .int what)]) hx hb dX8_sly_35 hl (Nat.le_of_ble_eq_true rfl) rfl (fun ls hl => ?_)
          refine lv_iconst (v := 1) hx hb dX8_sly_37 hki_1 ?_
          refine lv_istore (lv' := [(5, .int 1), (4, .int (-1)), (0, .ref mo), (1, .int (nI j_5)), (2, .int (nI j_10)), (3, .int what)]) hx hb dX8_sly_38 hl (Nat.le_of_ble_eq_true rfl) rfl (fun ls hl => ?_)
          refine lv_iconst (v := 1) hx hb dX8_sly_40 hki_1 ?_
          refine lv_istore (lv' := [(6, .int 1), (5, .int 1), (4, .int (-1)), (0, .ref mo), (1, .int (nI j_5)), (2, .int (nI j_10)), (3, .int what)]) hx hb dX8_sly_41 hl (Nat.le_of_ble_eq_true rfl) rfl (fun ls hl => ?_)
          refine hs_while (σ := Int32 × Int32 × Nat) (fun x => x.2.2 ≤ c0 + 1) (fun x => c0 + 1 - x.2.2) (fun x => [oq7 mo mo_st mo_at mo_isKept (nI mo_pe) (nI mo_hm) mo_draft (nI mo_dp) (nI mo_dh) mo_toldLines mo_highest mo_tape (nI mo_tl) (nI mo_ps) (nI mo_fr) mo_sort mo_value (nI mo_ft) mo_wrongAt mo_row mo_orderMany (nI mo_fo) mo_lightest mo_heaviest mo_before mo_justSum mo_toldSum mo_allWays mo_lanes mo_sizes mo_cells mo_torn mo_had, oqI k mo_st 132 (sf), oqI k mo_at 44 (u_18)]) (fun x => [(6, .int (nI (x.2.2))), (5, .int (x.2.1)), (4, .int (x.1)), (0, .ref mo), (1, .int (nI j_5)), (2, .int (nI j_10)), (3, .int what)]) ?_ ((-1), 1, 1) ?_ hP hD hS hl
          · intro x hI ih43 H locs ls hP hD hS hl
            obtain ⟨mx, fo, kk⟩ := x
            try dsimp only at hI
            have hP : va_P D vwCl [_, _, _] H := hP
            have hD : va_D A [_, _, _] := hD
            have hl : lv_has ls 8 [(6, .int (nI kk)), (5, .int fo), (4, .int mx), (0, .ref mo), (1, .int (nI j_5)), (2, .int (nI j_10)), (3, .int what)] := hl
            refine lv_iload hx hb dX8_sly_43 (lv_at hl 0 rfl) ?_
            refine lv_aload_n hx hb dX8_sly_45 rfl (lv_at hl 3 rfl) ?_
            refine va_get (D := D) (ci := 7) (v := .ref mo_at) (C := RX8) (T := TX8) (N := 32) hx hb hts hiX8 hown hK hP 0 rfl rfl 1 (Nat.le_of_ble_eq_true rfl) fl13 (fun _ h9 => h9) rfl dX8_sly_46 ?_
            refine lv_iconst (v := 0) hx hb dX8_sly_49 hki_0 ?_
            refine va_iald hx hb hK hP 2 0 rfl rfl (hs_in (by decide)) dX8_sly_50 ?_
            refine hs_topi (nI c0) e0a ?_
            refine lv_icmp_ge (tgt := 113) hx hb dX8_sly_51 rfl (fun c_19 => ?_) (fun c_19 => ?_)
            · have nc_19 : c0 ≤ kk := (nI_leI (a := c0) (b := kk) (by omega) (by omega)).mp c_19
              refine lv_iload_n hx hb dX8_sly_113 rfl (lv_at hl 6 rfl) ?_
              refine lv_if_ne (tgt := 122) hx hb dX8_sly_114 rfl (fun c_20 => ?_) (fun c_20 => ?_)
              · refine lv_iload hx hb dX8_sly_122 (lv_at hl 2 rfl) ?_
                exact hs_iret hx hb hr hlocks hK hP hD hS u_18 [0, 1, 2] rfl (hs_upnd rfl) dX8_sly_124 (trivial)
              · refine lv_iload hx hb dX8_sly_117 (lv_at hl 1 rfl) ?_
                refine lv_goto (tgt := 124) hx hb dX8_sly_119 rfl ?_
                exact hs_iret hx hb hr hlocks hK hP hD hS u_18 [0, 1, 2] rfl (hs_upnd rfl) dX8_sly_124 (trivial)
            · have nc_19 : ¬ c0 ≤ kk := fun hq9 => c_19 ((nI_leI (a := c0) (b := kk) (by omega) (by omega)).mpr hq9)
              refine lv_aload_n hx hb dX8_sly_54 rfl (lv_at hl 3 rfl) ?_
              refine lv_iload_n hx hb dX8_sly_55 rfl (lv_at hl 4 rfl) ?_
              refine lv_aload_n hx hb dX8_sly_56 rfl (lv_at hl 3 rfl) ?_
              refine hs_ciM (va_runV (As := []) (rest := [.int (nI j_5), .ref mo]) ⟨hx, hb, hml, hown, hts⟩ (gm_every l D k _ mo mo_st mo_at mo_isKept mo_pe mo_hm mo_draft mo_dp mo_dh mo_toldLines mo_highest mo_tape mo_tl mo_ps mo_fr mo_sort mo_value mo_ft mo_wrongAt mo_row mo_orderMany mo_fo mo_lightest mo_heaviest mo_before mo_justSum mo_toldSum mo_allWays mo_lanes mo_sizes mo_cells mo_torn mo_had u_18 c0 (by first | exact e0a | exact e0) (by omega)) (cwV 0 hts gX8_sly_X8_every rfl rfl rfl ⟨rfl, hq_X8_every⟩ ⟨Nat.le_of_ble_eq_true rfl, Nat.le_of_ble_eq_true rfl⟩) (hs_preV hK hN (hs_subP (w := [_, _]) hP [0, 2] rfl) (hD.sub (ws' := [_, _]) [0, 2] (hs_upnd rfl) rfl) (ci := 7) (q0 := 0) rfl rfl) rfl rfl hl.1 rfl (lv_room (Nat.le_of_ble_eq_true rfl)) dX8_sly_57 ⟨Nat.le_of_ble_eq_true rfl, Nat.le_of_ble_eq_true rfl⟩) hP hD hS hA [false, true, false] [_] [_, _] rfl [0, 1] rfl [0, 1] (fun u_23 => [_, _]) (fun _ => rfl) (hs_upnd rfl) [false, true, false] (fun u_23 => [_, _, _]) (fun _ => rfl) (fun r_21 u_23 H locs hw_22 hP hD hS => ?_)
              refine hs_topi (nI (2 ^ c0 - 1)) hw_22 ?_
              refine lv_aload_n hx hb dX8_sly_60 rfl (lv_at hl 3 rfl) ?_
              refine lv_iload_n hx hb dX8_sly_61 rfl (lv_at hl 5 rfl) ?_
              refine lv_iload hx hb dX8_sly_62 (lv_at hl 0 rfl) ?_
              refine hs_ciM (va_runV (As := [.int (nI j_10), .int (nI kk)]) (rest := [.int (nI (2 ^ c0 - 1)), .int (nI j_5), .ref mo]) ⟨hx, hb, hml, hown, hts⟩ (gm_takenBy l D k _ mo mo_st mo_at mo_isKept mo_pe mo_hm mo_draft mo_dp mo_dh mo_toldLines mo_highest mo_tape mo_tl mo_ps mo_fr mo_sort mo_value mo_ft mo_wrongAt mo_row mo_orderMany mo_fo mo_lightest mo_heaviest mo_before mo_justSum mo_toldSum mo_allWays mo_lanes mo_sizes mo_cells mo_torn mo_had u_18 c0 j_10 (nI kk) (by first | exact e0a | exact e0) (by omega) (by omega)) (cwV 2 hts gX8_sly_X8_takenBy rfl rfl rfl ⟨rfl, hq_X8_takenBy⟩ ⟨Nat.le_of_ble_eq_true rfl, Nat.le_of_ble_eq_true rfl⟩) (hs_preV hK hN (hs_subP (w := [_, _]) hP [0, 2] rfl) (hD.sub (ws' := [_, _]) [0, 2] (hs_upnd rfl) rfl) (ci := 7) (q0 := 0) rfl rfl) rfl rfl hl.1 rfl (lv_room (Nat.le_of_ble_eq_true rfl)) dX8_sly_64 ⟨Nat.le_of_ble_eq_true rfl, Nat.le_of_ble_eq_true rfl⟩) hP hD hS hA [false, true, false] [_] [_, _] rfl [0, 1] rfl [0, 1] (fun u_26 => [_, _]) (fun _ => rfl) (hs_upnd rfl) [false, true, false] (fun u_26 => [_, _, _]) (fun _ => rfl) (fun r_24 u_26 H locs hw_25 hP hD hS => ?_)
              refine lv_iconst (v := (-1)) hx hb dX8_sly_67 hki_m1 ?_
              refine lv_ixor hx hb dX8_sly_68 ?_
              refine lv_iand hx hb dX8_sly_69 ?_
              refine hs_ciM (va_runV (As := [.int (nI j_5), .int ((nI (2 ^ c0 - 1)) &&& (r_24 ^^^ (-1)))]) (rest := []) ⟨hx, hb, hml, hown, hts⟩ (gm_worthOfAll l D k _ mo mo_st mo_at mo_isKept mo_pe mo_hm mo_draft mo_dp mo_dh mo_toldLines mo_highest mo_tape mo_tl mo_ps mo_fr mo_sort mo_value mo_ft mo_wrongAt mo_row mo_orderMany mo_fo mo_lightest mo_heaviest mo_before mo_justSum mo_toldSum mo_allWays mo_lanes mo_sizes mo_cells mo_torn mo_had u_18 c0 j_5 ((nI (2 ^ c0 - 1)) &&& (r_24 ^^^ (-1))) (by first | exact e0a | exact e0) (by omega) (by omega)) (cwV 2 hts gX8_sly_X8_worthOfAll rfl rfl rfl ⟨rfl, hq_X8_worthOfAll⟩ ⟨Nat.le_of_ble_eq_true rfl, Nat.le_of_ble_eq_true rfl⟩) (hs_preV hK hN (hs_subP (w := [_, _]) hP [0, 2] rfl) (hD.sub (ws' := [_, _]) [0, 2] (hs_upnd rfl) rfl) (ci := 7) (q0 := 0) rfl rfl) rfl rfl hl.1 rfl (lv_room (Nat.le_of_ble_eq_true rfl)) dX8_sly_70 ⟨Nat.le_of_ble_eq_true rfl, Nat.le_of_ble_eq_true rfl⟩) hP hD hS hA [false, true, false] [_] [_, _] rfl [0, 1] rfl [0, 1] (fun u_29 => [_, _]) (fun _ => rfl) (hs_upnd rfl) [false, true, false] (fun u_29 => [_, _, _]) (fun _ => rfl) (fun r_27 u_29 H locs hw_28 hP hD hS => ?_)
              refine lv_istore (lv' := [(7, .int r_27), (6, .int (nI kk)), (5, .int fo), (4, .int mx), (0, .ref mo), (1, .int (nI j_5)), (2, .int (nI j_10)), (3, .int what)]) hx hb dX8_sly_73 hl (Nat.le_of_ble_eq_true rfl) rfl (fun ls hl => ?_)
              refine lv_iload hx hb dX8_sly_75 (lv_at hl 0 rfl) ?_
              refine lv_iload hx hb dX8_sly_77 (lv_at hl 3 rfl) ?_
              refine lv_icmp_le (tgt := 87) hx hb dX8_sly_79 rfl (fun c_30 => ?_) (fun c_30 => ?_)
              · refine lv_iload hx hb dX8_sly_87 (lv_at hl 2 rfl) ?_
                refine lv_istore (lv' := [(5, .int fo), (7, .int r_27), (6, .int (nI kk)), (4, .int mx), (0, .ref mo), (1, .int (nI j_5)), (2, .int (nI j_10)), (3, .int what)]) hx hb dX8_sly_89 hl (Nat.le_of_ble_eq_true rfl) rfl (fun ls hl => ?_)
                refine lv_iload hx hb dX8_sly_91 (lv_at hl 1 rfl) ?_
                refine lv_iload hx hb dX8_sly_93 (lv_at hl 3 rfl) ?_
                refine lv_icmp_le (tgt := 103) hx hb dX8_sly_95 rfl (fun c_31 => ?_) (fun c_31 => ?_)
                · refine lv_iload hx hb dX8_sly_103 (lv_at hl 3 rfl) ?_
                  refine lv_istore (lv' := [(4, .int mx), (5, .int fo), (7, .int r_27), (6, .int (nI kk)), (0, .ref mo), (1, .int (nI j_5)), (2, .int (nI j_10)), (3, .int what)]) hx hb dX8_sly_105 hl (Nat.le_of_ble_eq_true rfl) rfl (fun ls hl => ?_)
                  refine lv_iinc (v := nI (kk + 1)) (lv' := [(6, .int (nI (kk + 1))), (4, .int mx), (5, .int fo), (7, .int r_27), (0, .ref mo), (1, .int (nI j_5)), (2, .int (nI j_10)), (3, .int what)]) hx hb dX8_sly_107 hl (k := 3) rfl (nI_add (kk) 1) (Nat.le_of_ble_eq_true rfl) rfl (fun ls hl => ?_)
                  refine lv_goto (tgt := 43) hx hb dX8_sly_110 rfl ?_
                  exact ih43 (mx, fo, kk + 1) (by (try dsimp only); first | omega | (refine ⟨?_, ?_⟩ <;> first | omega | assumption)) (by (try dsimp only); omega) _ _ _ hP hD hS (lv_sub hl [0, 2, 1, 4, 5, 6, 7] rfl)
                · refine lv_iload hx hb dX8_sly_98 (lv_at hl 1 rfl) ?_
                  refine lv_goto (tgt := 105) hx hb dX8_sly_100 rfl ?_
                  refine lv_istore (lv' := [(4, .int r_27), (5, .int fo), (7, .int r_27), (6, .int (nI kk)), (0, .ref mo), (1, .int (nI j_5)), (2, .int (nI j_10)), (3, .int what)]) hx hb dX8_sly_105 hl (Nat.le_of_ble_eq_true rfl) rfl (fun ls hl => ?_)
                  refine lv_iinc (v := nI (kk + 1)) (lv' := [(6, .int (nI (kk + 1))), (4, .int r_27), (5, .int fo), (7, .int r_27), (0, .ref mo), (1, .int (nI j_5)), (2, .int (nI j_10)), (3, .int what)]) hx hb dX8_sly_107 hl (k := 3) rfl (nI_add (kk) 1) (Nat.le_of_ble_eq_true rfl) rfl (fun ls hl => ?_)
                  refine lv_goto (tgt := 43) hx hb dX8_sly_110 rfl ?_
                  exact ih43 (r_27, fo, kk + 1) (by (try dsimp only); first | omega | (refine ⟨?_, ?_⟩ <;> first | omega | assumption)) (by (try dsimp only); omega) _ _ _ hP hD hS (lv_sub hl [0, 2, 1, 4, 5, 6, 7] rfl)
              · refine lv_iload hx hb dX8_sly_82 (lv_at hl 1 rfl) ?_
                refine lv_goto (tgt := 89) hx hb dX8_sly_84 rfl ?_
                refine lv_istore (lv' := [(5, .int (nI kk)), (7, .int r_27), (6, .int (nI kk)), (4, .int mx), (0, .ref mo), (1, .int (nI j_5)), (2, .int (nI j_10)), (3, .int what)]) hx hb dX8_sly_89 hl (Nat.le_of_ble_eq_true rfl) rfl (fun ls hl => ?_)
                refine lv_iload hx hb dX8_sly_91 (lv_at hl 1 rfl) ?_
                refine lv_iload hx hb dX8_sly_93 (lv_at hl 3 rfl) ?_
                refine lv_icmp_le (tgt := 103) hx hb dX8_sly_95 rfl (fun c_32 => ?_) (fun c_32 => ?_)
                · refine lv_iload hx hb dX8_sly_103 (lv_at hl 3 rfl) ?_
                  refine lv_istore (lv' := [(4, .int mx), (5, .int (nI kk)), (7, .int r_27), (6, .int (nI kk)), (0, .ref mo), (1, .int (nI j_5)), (2, .int (nI j_10)), (3, .int what)]) hx hb dX8_sly_105 hl (Nat.le_of_ble_eq_true rfl) rfl (fun ls hl => ?_)
                  refine lv_iinc (v := nI (kk + 1)) (lv' := [(6, .int (nI (kk + 1))), (4, .int mx), (5, .int (nI kk)), (7, .int r_27), (0, .ref mo), (1, .int (nI j_5)), (2, .int (nI j_10)), (3, .int what)]) hx hb dX8_sly_107 hl (k := 3) rfl (nI_add (kk) 1) (Nat.le_of_ble_eq_true rfl) rfl (fun ls hl => ?_)
                  refine lv_goto (tgt := 43) hx hb dX8_sly_110 rfl ?_
                  exact ih43 (mx, nI kk, kk + 1) (by (try dsimp only); first | omega | (refine ⟨?_, ?_⟩ <;> first | omega | assumption)) (by (try dsimp only); omega) _ _ _ hP hD hS (lv_sub hl [0, 2, 1, 4, 5, 6, 7] rfl)
                · refine lv_iload hx hb dX8_sly_98 (lv_at hl 1 rfl) ?_
                  refine lv_goto (tgt := 105) hx hb dX8_sly_100 rfl ?_
                  refine lv_istore (lv' := [(4, .int r_27), (5, .int (nI kk)), (7, .int r_27), (6, .int (nI kk)), (0, .ref mo), (1, .int (nI j_5)), (2, .int (nI j_10)), (3, .int what)]) hx hb dX8_sly_105 hl (Nat.le_of_ble_eq_true rfl) rfl (fun ls hl => ?_)
                  refine lv_iinc (v := nI (kk + 1)) (lv' := [(6, .int (nI (kk + 1))), (4, .int r_27), (5, .int (nI kk)), (7, .int r_27), (0, .ref mo), (1, .int (nI j_5)), (2, .int (nI j_10)), (3, .int what)]) hx hb dX8_sly_107 hl (k := 3) rfl (nI_add (kk) 1) (Nat.le_of_ble_eq_true rfl) rfl (fun ls hl => ?_)
                  refine lv_goto (tgt := 43) hx hb dX8_sly_110 rfl ?_
                  exact ih43 (r_27, nI kk, kk + 1) (by (try dsimp only); first | omega | (refine ⟨?_, ?_⟩ <;> first | omega | assumption)) (by (try dsimp only); omega) _ _ _ hP hD hS (lv_sub hl [0, 2, 1, 4, 5, 6, 7] rfl)
          · (try dsimp only); first | omega | (refine ⟨?_, ?_⟩ <;> first | omega | assumption)
        · refine lv_iconst (v := (-1)) hx hb dX8_sly_28 hki_m1 ?_
          exact hs_iret hx hb hr hlocks hK hP hD hS af [0, 1, 2] rfl (hs_upnd rfl) dX8_sly_29 (trivial)

set_option maxHeartbeats 4000000 in
set_option maxRecDepth 100000 in
theorem gq_rule (l : Launch) (D : va_G) (k : Nat → ClassId) (sz : Nat) (mo : Nat) (mo_st : Nat) (mo_at : Nat) (mo_isKept : Nat) (mo_pe : Nat) (mo_hm : Nat) (mo_draft : Nat) (mo_dp : Nat) (mo_dh : Nat) (mo_toldLines : Int32) (mo_highest : Int32) (mo_tape : Nat) (mo_tl : Nat) (mo_ps : Nat) (mo_fr : Nat) (mo_sort : Int32) (mo_value : Int32) (mo_ft : Nat) (mo_wrongAt : Int32) (mo_row : Nat) (mo_orderMany : Int32) (mo_fo : Nat) (mo_lightest : Int32) (mo_heaviest : Int32) (mo_before : Nat) (mo_justSum : Int64) (mo_toldSum : Int64) (mo_allWays : Int64) (mo_lanes : Nat) (mo_sizes : Nat) (mo_cells : Nat) (mo_torn : Int32) (mo_had : Nat) (sf : Nat → Int32) (c0 : Nat) (c3 : Nat) (c4 : Nat) (af : Nat → Int32) (what : Int32) (e0 : sf 0 = nI c0) (h0 : c0 ≤ 8) (h02 : 2 ≤ c0) (e3 : sf 16 = nI c3) (h3 : c3 ≤ 8) (e4 : sf 25 = nI c4) (h4 : c4 ≤ 6) (hpe : mo_pe ≤ 4) (hm2 : 2 ≤ mo_hm) (hm5 : mo_hm ≤ 5) : MI l yX8_rule wsX8_rule ({ frames := 1, cells := 0, slots := 0, locals := 22 }) D k [.ref mo, .int what] [oq7 mo mo_st mo_at mo_isKept (nI mo_pe) (nI mo_hm) mo_draft (nI mo_dp) (nI mo_dh) mo_toldLines mo_highest mo_tape (nI mo_tl) (nI mo_ps) (nI mo_fr) mo_sort mo_value (nI mo_ft) mo_wrongAt mo_row mo_orderMany (nI mo_fo) mo_lightest mo_heaviest mo_before mo_justSum mo_toldSum mo_allWays mo_lanes mo_sizes mo_cells mo_torn mo_had, oqI k mo_st 132 (sf), oqI k mo_at 44 (af)] sz (fun (r : Int32) (u : Nat → Int32) => True) (fun (u : Nat → Int32) => [oq7 mo mo_st mo_at mo_isKept (nI mo_pe) (nI mo_hm) mo_draft (nI mo_dp) (nI mo_dh) mo_toldLines mo_highest mo_tape (nI mo_tl) (nI mo_ps) (nI mo_fr) mo_sort mo_value (nI mo_ft) mo_wrongAt mo_row mo_orderMany (nI mo_fo) mo_lightest mo_heaviest mo_before mo_justSum mo_toldSum mo_allWays mo_lanes mo_sizes mo_cells mo_torn mo_had, oqI k mo_st 132 (sf), oqI k mo_at 44 (u)]) := by
  refine Met.ofW (cc := cX8_rule) (maxL := 2) (ret := (some .int)) hpn_X8 rfl ?_
  intro p e s m args below meth c s₁ B hml hv
  obtain ⟨rfl, hsz, hP, hK, hD0, hN⟩ := hv
  have hx := B.exec
  have hb := B.bytes
  have hr := B.returns
  have hlocks := B.notSynchronized
  have hts := atoms_spec (ws := wsX8_rule) B.pre
  have hown := findClass_of_methodNamed B.named
  have hown : s.vm.findClass RX8 = some m.cls := hown
  have hiX8 : ∀ w ∈ u_ws RX8 TX8 32, w ∈ wsX8_rule := fun w9 hw9 => List.mem_cons_of_mem _ (igX8 w9 hw9)
  have fl7 := hts (.fieldLink RX8 7 "HalfScalesModel" "st" "[I") (List.mem_cons_of_mem _ (hs_inG 4 80 rfl rfl))
  have fl63 := hts (.fieldLink RX8 63 "HalfScalesModel" "people" "I") (List.mem_cons_of_mem _ (hs_inG 4 83 rfl rfl))
  have fl66 := hts (.fieldLink RX8 66 "HalfScalesModel" "halfMany" "I") (List.mem_cons_of_mem _ (hs_inG 4 84 rfl rfl))
  subst hsz
  have hD := hD0.self (sz := s.heap.size)
  generalize hAe : va_A [oq7 mo mo_st mo_at mo_isKept (nI mo_pe) (nI mo_hm) mo_draft (nI mo_dp) (nI mo_dh) mo_toldLines mo_highest mo_tape (nI mo_tl) (nI mo_ps) (nI mo_fr) mo_sort mo_value (nI mo_ft) mo_wrongAt mo_row mo_orderMany (nI mo_fo) mo_lightest mo_heaviest mo_before mo_justSum mo_toldSum mo_allWays mo_lanes mo_sizes mo_cells mo_torn mo_had, oqI k mo_st 132 (sf), oqI k mo_at 44 (af)] s.heap.size = A at hD ⊢
  have hA : ∀ q : Nat, s.heap.size ≤ q → A q := fun q h => by rw [← hAe]; exact Or.inr h
  have hS : va_S A s.heap s.heap [] := va_S.rf
  have hl := lv_entry ([.ref mo, .int what]) (n := 2) (Nat.le_of_ble_eq_true rfl)
  rw [lg_entry_eq]
  generalize (lg_sl ([.ref mo, .int what]) ++ List.replicate (2 - (lg_sl ([.ref mo, .int what])).length) Slot.unset).toArray = ls at hl ⊢
  have hl : lv_has ls 2 [(0, .ref mo), (1, .int what)] := hl
  have hP : va_P D vwCl [oq7 mo mo_st mo_at mo_isKept (nI mo_pe) (nI mo_hm) mo_draft (nI mo_dp) (nI mo_dh) mo_toldLines mo_highest mo_tape (nI mo_tl) (nI mo_ps) (nI mo_fr) mo_sort mo_value (nI mo_ft) mo_wrongAt mo_row mo_orderMany (nI mo_fo) mo_lightest mo_heaviest mo_before mo_justSum mo_toldSum mo_allWays mo_lanes mo_sizes mo_cells mo_torn mo_had, oqI k mo_st 132 (sf), oqI k mo_at 44 (af)] s.heap := hP
  refine lv_aload_n hx hb dX8_rule_0 rfl (lv_at hl 0 rfl) ?_
  refine hs_cvM (va_runV (As := []) (rest := []) ⟨hx, hb, hml, hown, hts⟩ (gm_starts l D k _ mo mo_st mo_at mo_isKept mo_pe mo_hm mo_draft mo_dp mo_dh mo_toldLines mo_highest mo_tape mo_tl mo_ps mo_fr mo_sort mo_value mo_ft mo_wrongAt mo_row mo_orderMany mo_fo mo_lightest mo_heaviest mo_before mo_justSum mo_toldSum mo_allWays mo_lanes mo_sizes mo_cells mo_torn mo_had sf af) (cwV 0 hts gX8_rule_X8_starts rfl rfl rfl ⟨rfl, hq_X8_starts⟩ ⟨Nat.le_of_ble_eq_true rfl, Nat.le_of_ble_eq_true rfl⟩) (hs_preV hK hN (hs_subP (w := [_, _, _]) hP [0, 1, 2] rfl) (hD.sub (ws' := [_, _, _]) [0, 1, 2] (hs_upnd rfl) rfl) (ci := 7) (q0 := 0) rfl rfl) rfl rfl hl.1 rfl (lv_room (Nat.le_of_ble_eq_true rfl)) dX8_rule_1 ⟨Nat.le_of_ble_eq_true rfl, Nat.le_of_ble_eq_true rfl⟩) hP hD hS hA [false, false, false] [] [_, _, _] rfl [0, 1, 2] rfl [0, 1, 2] (fun u_3 => [_, _, _]) (fun _ => rfl) (hs_upnd rfl) [false, false, false] (fun u_3 => [_, _, _]) (fun _ => rfl) (fun u_3 H locs hw_2 hP hD hS => ?_)
  have hw_2 : ∀ j, j < 44 → u_3 j = sf j := hw_2
  have e0a : u_3 0 = nI c0 := (hw_2 0 (by decide)).trans e0
  have e3a : u_3 16 = nI c3 := (hw_2 16 (by decide)).trans e3
  have e4a : u_3 25 = nI c4 := (hw_2 25 (by decide)).trans e4
  have hw_2 : ∀ j, j < 44 → u_3 j = sf j := hw_2
  refine lv_iload_n hx hb dX8_rule_4 rfl (lv_at hl 1 rfl) ?_
  by_cases sw_4 : what = 0
  · subst sw_4
    refine lv_tableIn (off := 47) (tgt := 52) hx hb dX8_rule_5 (by decide) (by decide) (by rfl) (by decide) ?_
    refine lv_aload_n hx hb dX8_rule_52 rfl (lv_at hl 0 rfl) ?_
    refine va_get (D := D) (ci := 7) (v := .ref mo_st) (C := RX8) (T := TX8) (N := 32) hx hb hts hiX8 hown hK hP 0 rfl rfl 0 (Nat.le_of_ble_eq_true rfl) fl7 (fun _ h9 => h9) rfl dX8_rule_53 ?_
    refine lv_iconst (v := 0) hx hb dX8_rule_56 hki_0 ?_
    refine va_iald hx hb hK hP 1 0 rfl rfl (hs_in (by decide)) dX8_rule_57 ?_
    refine hs_topi (nI c0) e0 ?_
    exact hs_iret hx hb hr hlocks hK hP hD hS u_3 [0, 1, 2] rfl (hs_upnd rfl) dX8_rule_58 (trivial)
  by_cases sw_5 : what = 1
  · subst sw_5
    refine lv_tableIn (off := 54) (tgt := 59) hx hb dX8_rule_5 (by decide) (by decide) (by rfl) (by decide) ?_
    refine lv_aload_n hx hb dX8_rule_59 rfl (lv_at hl 0 rfl) ?_
    refine va_get (D := D) (ci := 7) (v := .int (nI mo_pe)) (C := RX8) (T := TX8) (N := 32) hx hb hts hiX8 hown hK hP 0 rfl rfl 3 (Nat.le_of_ble_eq_true rfl) fl63 (fun _ h9 => h9) rfl dX8_rule_60 ?_
    exact hs_iret hx hb hr hlocks hK hP hD hS u_3 [0, 1, 2] rfl (hs_upnd rfl) dX8_rule_63 (trivial)
  by_cases sw_6 : what = 2
  · subst sw_6
    refine lv_tableIn (off := 59) (tgt := 64) hx hb dX8_rule_5 (by decide) (by decide) (by rfl) (by decide) ?_
    refine lv_aload_n hx hb dX8_rule_64 rfl (lv_at hl 0 rfl) ?_
    refine va_get (D := D) (ci := 7) (v := .ref mo_st) (C := RX8) (T := TX8) (N := 32) hx hb hts hiX8 hown hK hP 0 rfl rfl 0 (Nat.le_of_ble_eq_true rfl) fl7 (fun _ h9 => h9) rfl dX8_rule_65 ?_
    refine lv_bipush (v := 13) hx hb dX8_rule_68 hkb_13 ?_
    refine lv_iload_n hx hb dX8_rule_70 rfl (lv_at hl 1 rfl) ?_
    refine lv_iadd hx hb dX8_rule_71 ?_
    refine hs_topi 15 (by first | rfl | decide +kernel) ?_
    refine lv_iconst (v := 2) hx hb dX8_rule_72 hki_2 ?_
    refine lv_isub hx hb dX8_rule_73 ?_
    refine hs_topi 13 (by first | rfl | decide +kernel) ?_
    refine va_iald hx hb hK hP 1 0 rfl rfl (hs_in (by decide)) dX8_rule_74 ?_
    exact hs_iret hx hb hr hlocks hK hP hD hS u_3 [0, 1, 2] rfl (hs_upnd rfl) dX8_rule_75 (trivial)
  by_cases sw_7 : what = 3
  · subst sw_7
    refine lv_tableIn (off := 59) (tgt := 64) hx hb dX8_rule_5 (by decide) (by decide) (by rfl) (by decide) ?_
    refine lv_aload_n hx hb dX8_rule_64 rfl (lv_at hl 0 rfl) ?_
    refine va_get (D := D) (ci := 7) (v := .ref mo_st) (C := RX8) (T := TX8) (N := 32) hx hb hts hiX8 hown hK hP 0 rfl rfl 0 (Nat.le_of_ble_eq_true rfl) fl7 (fun _ h9 => h9) rfl dX8_rule_65 ?_
    refine lv_bipush (v := 13) hx hb dX8_rule_68 hkb_13 ?_
    refine lv_iload_n hx hb dX8_rule_70 rfl (lv_at hl 1 rfl) ?_
    refine lv_iadd hx hb dX8_rule_71 ?_
    refine hs_topi 16 (by first | rfl | decide +kernel) ?_
    refine lv_iconst (v := 2) hx hb dX8_rule_72 hki_2 ?_
    refine lv_isub hx hb dX8_rule_73 ?_
    refine hs_topi 14 (by first | rfl | decide +kernel) ?_
    refine va_iald hx hb hK hP 1 0 rfl rfl (hs_in (by decide)) dX8_rule_74 ?_
    exact hs_iret hx hb hr hlocks hK hP hD hS u_3 [0, 1, 2] rfl (hs_upnd rfl) dX8_rule_75 (trivial)
  by_cases sw_8 : what = 4
  · subst sw_8
    refine lv_tableIn (off := 59) (tgt := 64) hx hb dX8_rule_5 (by decide) (by decide) (by rfl) (by decide) ?_
    refine lv_aload_n hx hb dX8_rule_64 rfl (lv_at hl 0 rfl) ?_
    refine va_get (D := D) (ci := 7) (v := .ref mo_st) (C := RX8) (T := TX8) (N := 32) hx hb hts hiX8 hown hK hP 0 rfl rfl 0 (Nat.le_of_ble_eq_true rfl) fl7 (fun _ h9 => h9) rfl dX8_rule_65 ?_
    refine lv_bipush (v := 13) hx hb dX8_rule_68 hkb_13 ?_
    refine lv_iload_n hx hb dX8_rule_70 rfl (lv_at hl 1 rfl) ?_
    refine lv_iadd hx hb dX8_rule_71 ?_
    refine hs_topi 17 (by first | rfl | decide +kernel) ?_
    refine lv_iconst (v := 2) hx hb dX8_rule_72 hki_2 ?_
    refine lv_isub hx hb dX8_rule_73 ?_
    refine hs_topi 15 (by first | rfl | decide +kernel) ?_
    refine va_iald hx hb hK hP 1 0 rfl rfl (hs_in (by decide)) dX8_rule_74 ?_
    exact hs_iret hx hb hr hlocks hK hP hD hS u_3 [0, 1, 2] rfl (hs_upnd rfl) dX8_rule_75 (trivial)
  by_cases sw_9 : what = 5
  · subst sw_9
    refine lv_tableIn (off := 71) (tgt := 76) hx hb dX8_rule_5 (by decide) (by decide) (by rfl) (by decide) ?_
    refine lv_aload_n hx hb dX8_rule_76 rfl (lv_at hl 0 rfl) ?_
    refine va_get (D := D) (ci := 7) (v := .int (nI mo_hm)) (C := RX8) (T := TX8) (N := 32) hx hb hts hiX8 hown hK hP 0 rfl rfl 4 (Nat.le_of_ble_eq_true rfl) fl66 (fun _ h9 => h9) rfl dX8_rule_77 ?_
    exact hs_iret hx hb hr hlocks hK hP hD hS u_3 [0, 1, 2] rfl (hs_upnd rfl) dX8_rule_80 (trivial)
  by_cases sw_10 : what = 6
  · subst sw_10
    refine lv_tableIn (off := 76) (tgt := 81) hx hb dX8_rule_5 (by decide) (by decide) (by rfl) (by decide) ?_
    refine lv_aload_n hx hb dX8_rule_81 rfl (lv_at hl 0 rfl) ?_
    refine va_get (D := D) (ci := 7) (v := .ref mo_st) (C := RX8) (T := TX8) (N := 32) hx hb hts hiX8 hown hK hP 0 rfl rfl 0 (Nat.le_of_ble_eq_true rfl) fl7 (fun _ h9 => h9) rfl dX8_rule_82 ?_
    refine lv_bipush (v := 16) hx hb dX8_rule_85 hkb_16 ?_
    refine va_iald hx hb hK hP 1 0 rfl rfl (hs_in (by decide)) dX8_rule_87 ?_
    refine hs_topi (nI c3) e3 ?_
    exact hs_iret hx hb hr hlocks hK hP hD hS u_3 [0, 1, 2] rfl (hs_upnd rfl) dX8_rule_88 (trivial)
  by_cases sw_11 : what = 7
  · subst sw_11
    refine lv_tableIn (off := 84) (tgt := 89) hx hb dX8_rule_5 (by decide) (by decide) (by rfl) (by decide) ?_
    refine lv_aload_n hx hb dX8_rule_89 rfl (lv_at hl 0 rfl) ?_
    refine hs_ciM (va_runV (As := []) (rest := []) ⟨hx, hb, hml, hown, hts⟩ (gm_allWeights l D k _ mo mo_st mo_at mo_isKept mo_pe mo_hm mo_draft mo_dp mo_dh mo_toldLines mo_highest mo_tape mo_tl mo_ps mo_fr mo_sort mo_value mo_ft mo_wrongAt mo_row mo_orderMany mo_fo mo_lightest mo_heaviest mo_before mo_justSum mo_toldSum mo_allWays mo_lanes mo_sizes mo_cells mo_torn mo_had u_3 c0 (by first | exact e0a | exact e0) (by omega)) (cwV 0 hts gX8_rule_X8_allWeights rfl rfl rfl ⟨rfl, hq_X8_allWeights⟩ ⟨Nat.le_of_ble_eq_true rfl, Nat.le_of_ble_eq_true rfl⟩) (hs_preV hK hN (hs_subP (w := [_, _]) hP [0, 2] rfl) (hD.sub (ws' := [_, _]) [0, 2] (hs_upnd rfl) rfl) (ci := 7) (q0 := 0) rfl rfl) rfl rfl hl.1 rfl (lv_room (Nat.le_of_ble_eq_true rfl)) dX8_rule_90 ⟨Nat.le_of_ble_eq_true rfl, Nat.le_of_ble_eq_true rfl⟩) hP hD hS hA [false, true, false] [_] [_, _] rfl [0, 1] rfl [0, 1] (fun u_14 => [_, _]) (fun _ => rfl) (hs_upnd rfl) [false, true, false] (fun u_14 => [_, _, _]) (fun _ => rfl) (fun r_12 u_14 H locs hw_13 hP hD hS => ?_)
    exact hs_iret hx hb hr hlocks hK hP hD hS u_3 [0, 1, 2] rfl (hs_upnd rfl) dX8_rule_93 (trivial)
  refine lv_tableOut (tgt := 94) hx hb dX8_rule_5 (by have z0 := lv_neT sw_4 (a := 0) rfl; have z1 := lv_neT sw_5 (a := 1) rfl; have z2 := lv_neT sw_6 (a := 2) rfl; have z3 := lv_neT sw_7 (a := 3) rfl; have z4 := lv_neT sw_8 (a := 4) rfl; have z5 := lv_neT sw_9 (a := 5) rfl; have z6 := lv_neT sw_10 (a := 6) rfl; have z7 := lv_neT sw_11 (a := 7) rfl; omega) (by decide) ?_
  refine lv_iconst (v := (-1)) hx hb dX8_rule_94 hki_m1 ?_
  exact hs_iret hx hb hr hlocks hK hP hD hS u_3 [0, 1, 2] rfl (hs_upnd rfl) dX8_rule_95 (trivial)

set_option maxHeartbeats 4000000 in
set_option maxRecDepth 100000 in
theorem gq_pair (l : Launch) (D : va_G) (k : Nat → ClassId) (sz : Nat) (mo : Nat) (mo_st : Nat) (mo_at : Nat) (mo_isKept : Nat) (mo_pe : Nat) (mo_hm : Nat) (mo_draft : Nat) (mo_dp : Nat) (mo_dh : Nat) (mo_toldLines : Int32) (mo_highest : Int32) (mo_tape : Nat) (mo_tl : Nat) (mo_ps : Nat) (mo_fr : Nat) (mo_sort : Int32) (mo_value : Int32) (mo_ft : Nat) (mo_wrongAt : Int32) (mo_row : Nat) (mo_orderMany : Int32) (mo_fo : Nat) (mo_lightest : Int32) (mo_heaviest : Int32) (mo_before : Nat) (mo_justSum : Int64) (mo_toldSum : Int64) (mo_allWays : Int64) (mo_lanes : Nat) (mo_sizes : Nat) (mo_cells : Nat) (mo_torn : Int32) (mo_had : Nat) (sf : Nat → Int32) (c0 : Nat) (c3 : Nat) (c4 : Nat) (i : Int32) (e0 : sf 0 = nI c0) (h0 : c0 ≤ 8) (h02 : 2 ≤ c0) (e3 : sf 16 = nI c3) (h3 : c3 ≤ 8) (e4 : sf 25 = nI c4) (h4 : c4 ≤ 6) (hpe : mo_pe ≤ 4) (hm2 : 2 ≤ mo_hm) (hm5 : mo_hm ≤ 5) : MI l yX8_pair wsX8_pair ({ frames := 1, cells := 0, slots := 0, locals := 25 }) D k [.ref mo, .int i] [oq7 mo mo_st mo_at mo_isKept (nI mo_pe) (nI mo_hm) mo_draft (nI mo_dp) (nI mo_dh) mo_toldLines mo_highest mo_tape (nI mo_tl) (nI mo_ps) (nI mo_fr) mo_sort mo_value (nI mo_ft) mo_wrongAt mo_row mo_orderMany (nI mo_fo) mo_lightest mo_heaviest mo_before mo_justSum mo_toldSum mo_allWays mo_lanes mo_sizes mo_cells mo_torn mo_had, oqI k mo_st 132 (sf)] sz (fun (r : Int32) (u : Unit) => True) (fun (u : Unit) => [oq7 mo mo_st mo_at mo_isKept (nI mo_pe) (nI mo_hm) mo_draft (nI mo_dp) (nI mo_dh) mo_toldLines mo_highest mo_tape (nI mo_tl) (nI mo_ps) (nI mo_fr) mo_sort mo_value (nI mo_ft) mo_wrongAt mo_row mo_orderMany (nI mo_fo) mo_lightest mo_heaviest mo_before mo_justSum mo_toldSum mo_allWays mo_lanes mo_sizes mo_cells mo_torn mo_had, oqI k mo_st 132 (sf)]) := by
  refine Met.ofW (cc := cX8_pair) (maxL := 2) (ret := (some .int)) hpn_X8 rfl ?_
  intro p e s m args below meth c s₁ B hml hv
  obtain ⟨rfl, hsz, hP, hK, hD0, hN⟩ := hv
  have hx := B.exec
  have hb := B.bytes
  have hr := B.returns
  have hlocks := B.notSynchronized
  have hts := atoms_spec (ws := wsX8_pair) B.pre
  have hown := findClass_of_methodNamed B.named
  have hown : s.vm.findClass RX8 = some m.cls := hown
  have hiX8 : ∀ w ∈ u_ws RX8 TX8 32, w ∈ wsX8_pair := fun w9 hw9 => List.mem_cons_of_mem _ (igX8 w9 hw9)
  have fl7 := hts (.fieldLink RX8 7 "HalfScalesModel" "st" "[I") (List.mem_cons_of_mem _ (hs_inG 4 80 rfl rfl))
  subst hsz
  have hD := hD0.self (sz := s.heap.size)
  generalize hAe : va_A [oq7 mo mo_st mo_at mo_isKept (nI mo_pe) (nI mo_hm) mo_draft (nI mo_dp) (nI mo_dh) mo_toldLines mo_highest mo_tape (nI mo_tl) (nI mo_ps) (nI mo_fr) mo_sort mo_value (nI mo_ft) mo_wrongAt mo_row mo_orderMany (nI mo_fo) mo_lightest mo_heaviest mo_before mo_justSum mo_toldSum mo_allWays mo_lanes mo_sizes mo_cells mo_torn mo_had, oqI k mo_st 132 (sf)] s.heap.size = A at hD ⊢
  have hA : ∀ q : Nat, s.heap.size ≤ q → A q := fun q h => by rw [← hAe]; exact Or.inr h
  have hS : va_S A s.heap s.heap [] := va_S.rf
  have hl := lv_entry ([.ref mo, .int i]) (n := 2) (Nat.le_of_ble_eq_true rfl)
  rw [lg_entry_eq]
  generalize (lg_sl ([.ref mo, .int i]) ++ List.replicate (2 - (lg_sl ([.ref mo, .int i])).length) Slot.unset).toArray = ls at hl ⊢
  have hl : lv_has ls 2 [(0, .ref mo), (1, .int i)] := hl
  have hP : va_P D vwCl [oq7 mo mo_st mo_at mo_isKept (nI mo_pe) (nI mo_hm) mo_draft (nI mo_dp) (nI mo_dh) mo_toldLines mo_highest mo_tape (nI mo_tl) (nI mo_ps) (nI mo_fr) mo_sort mo_value (nI mo_ft) mo_wrongAt mo_row mo_orderMany (nI mo_fo) mo_lightest mo_heaviest mo_before mo_justSum mo_toldSum mo_allWays mo_lanes mo_sizes mo_cells mo_torn mo_had, oqI k mo_st 132 (sf)] s.heap := hP
  refine lv_iload_n hx hb dX8_pair_0 rfl (lv_at hl 1 rfl) ?_
  refine lv_i2l hx hb dX8_pair_1 rfl ?_
  refine lv_lconst (v := 0) hx hb dX8_pair_2 (by decide) ?_
  refine lv_aload_n hx hb dX8_pair_3 rfl (lv_at hl 0 rfl) ?_
  refine va_get (D := D) (ci := 7) (v := .ref mo_st) (C := RX8) (T := TX8) (N := 32) hx hb hts hiX8 hown hK hP 0 rfl rfl 0 (Nat.le_of_ble_eq_true rfl) fl7 (fun _ h9 => h9) rfl dX8_pair_4 ?_
  refine lv_bipush (v := 16) hx hb dX8_pair_7 hkb_16 ?_
  refine va_iald hx hb hK hP 1 0 rfl rfl (hs_in (by decide)) dX8_pair_9 ?_
  refine hs_topi (nI c3) e3 ?_
  refine lv_iconst (v := 1) hx hb dX8_pair_10 hki_1 ?_
  refine lv_isub hx hb dX8_pair_11 ?_
  refine lv_i2l hx hb dX8_pair_12 rfl ?_
  refine hs_pi (va_runS (As := [.long (((i) : Int32).toInt64), .long 0, .long ((((nI c3) - 1) : Int32).toInt64)]) (rest := []) ⟨hx, hb, hml, hown, hts⟩ (gm_in l D k _ i 0 ((nI c3) - 1)) (va_cwS 3 hts gX8_pair_X8_in rfl rfl rfl hq_X8_in ⟨Nat.le_of_ble_eq_true rfl, Nat.le_of_ble_eq_true rfl⟩) (hs_preS hK hN (hs_subP (w := []) hP [] rfl) (hD.sub (ws' := []) [] rfl rfl)) rfl rfl hl.1 rfl (lv_room (Nat.le_of_ble_eq_true rfl)) dX8_pair_13 ⟨Nat.le_of_ble_eq_true rfl, Nat.le_of_ble_eq_true rfl⟩) hP hD hS hA (fun r_1 u_3 H locs hw_2 hP hS => ?_)
  refine hs_topi (hsb (hsin i 0 ((nI c3) - 1))) hw_2 ?_
  refine lv_if_eq (tgt := 31) hx hb dX8_pair_16 rfl (fun c_4 => ?_) (fun c_4 => ?_)
  · refine lv_iconst (v := (-1)) hx hb dX8_pair_31 hki_m1 ?_
    exact hs_iret hx hb hr hlocks hK hP hD hS () [0, 1] rfl (hs_upnd rfl) dX8_pair_32 (trivial)
  · obtain ⟨jp, hjp, rfl⟩ := hslt_ex ((hslt_in (show c3 < 2 ^ 30 by omega)).symm.trans (hs_nb c_4))
    refine lv_aload_n hx hb dX8_pair_19 rfl (lv_at hl 0 rfl) ?_
    refine va_get (D := D) (ci := 7) (v := .ref mo_st) (C := RX8) (T := TX8) (N := 32) hx hb hts hiX8 hown hK hP 0 rfl rfl 0 (Nat.le_of_ble_eq_true rfl) fl7 (fun _ h9 => h9) rfl dX8_pair_20 ?_
    refine lv_bipush (v := 17) hx hb dX8_pair_23 hkb_17 ?_
    refine lv_iload_n hx hb dX8_pair_25 rfl (lv_at hl 1 rfl) ?_
    refine lv_iadd hx hb dX8_pair_26 ?_
    refine hs_topi (nI (17 + jp)) (nI_add (17) (jp)) ?_
    refine va_iald hx hb hK hP 1 0 rfl rfl (vp_in_nI (show (17 + jp) < 132 by omega) (by decide)) dX8_pair_27 ?_
    refine lv_goto (tgt := 32) hx hb dX8_pair_28 rfl ?_
    exact hs_iret hx hb hr hlocks hK hP hD hS () [0, 1] rfl (hs_upnd rfl) dX8_pair_32 (trivial)

set_option maxHeartbeats 4000000 in
set_option maxRecDepth 100000 in
theorem gq_halves (l : Launch) (D : va_G) (k : Nat → ClassId) (sz : Nat) (mo : Nat) (mo_st : Nat) (mo_at : Nat) (mo_isKept : Nat) (mo_pe : Nat) (mo_hm : Nat) (mo_draft : Nat) (mo_dp : Nat) (mo_dh : Nat) (mo_toldLines : Int32) (mo_highest : Int32) (mo_tape : Nat) (mo_tl : Nat) (mo_ps : Nat) (mo_fr : Nat) (mo_sort : Int32) (mo_value : Int32) (mo_ft : Nat) (mo_wrongAt : Int32) (mo_row : Nat) (mo_orderMany : Int32) (mo_fo : Nat) (mo_lightest : Int32) (mo_heaviest : Int32) (mo_before : Nat) (mo_justSum : Int64) (mo_toldSum : Int64) (mo_allWays : Int64) (mo_lanes : Nat) (mo_sizes : Nat) (mo_cells : Nat) (mo_torn : Int32) (mo_had : Nat) (sf : Nat → Int32) (c0 : Nat) (c3 : Nat) (c4 : Nat) (af : Nat → Int32) (a : Int32) (what : Int32) (e0 : sf 0 = nI c0) (h0 : c0 ≤ 8) (h02 : 2 ≤ c0) (e3 : sf 16 = nI c3) (h3 : c3 ≤ 8) (e4 : sf 25 = nI c4) (h4 : c4 ≤ 6) (hpe : mo_pe ≤ 4) (hm2 : 2 ≤ mo_hm) (hm5 : mo_hm ≤ 5) : MI l yX8_halves wsX8_halves ({ frames := 3, cells := 0, slots := 0, locals := 70 }) D k [.ref mo, .int a, .int what] [oq7 mo mo_st mo_at mo_isKept (nI mo_pe) (nI mo_hm) mo_draft (nI mo_dp) (nI mo_dh) mo_toldLines mo_highest mo_tape (nI mo_tl) (nI mo_ps) (nI mo_fr) mo_sort mo_value (nI mo_ft) mo_wrongAt mo_row mo_orderMany (nI mo_fo) mo_lightest mo_heaviest mo_before mo_justSum mo_toldSum mo_allWays mo_lanes mo_sizes mo_cells mo_torn mo_had, oqI k mo_st 132 (sf), oqI k mo_at 44 (af)] sz (fun (r : Int32) (u : Nat → Int32) => True) (fun (u : Nat → Int32) => [oq7 mo mo_st mo_at mo_isKept (nI mo_pe) (nI mo_hm) mo_draft (nI mo_dp) (nI mo_dh) mo_toldLines mo_highest mo_tape (nI mo_tl) (nI mo_ps) (nI mo_fr) mo_sort mo_value (nI mo_ft) mo_wrongAt mo_row mo_orderMany (nI mo_fo) mo_lightest mo_heaviest mo_before mo_justSum mo_toldSum mo_allWays mo_lanes mo_sizes mo_cells mo_torn mo_had, oqI k mo_st 132 (sf), oqI k mo_at 44 (u)]) := by
  refine Met.ofW (cc := cX8_halves) (maxL := 8) (ret := (some .int)) hpn_X8 rfl ?_
  intro p e s m args below meth c s₁ B hml hv
  obtain ⟨rfl, hsz, hP, hK, hD0, hN⟩ := hv
  have hx := B.exec
  have hb := B.bytes
  have hr := B.returns
  have hlocks := B.notSynchronized
  have hts := atoms_spec (ws := wsX8_halves) B.pre
  have hown := findClass_of_methodNamed B.named
  have hown : s.vm.findClass RX8 = some m.cls := hown
  have hiX8 : ∀ w ∈ u_ws RX8 TX8 32, w ∈ wsX8_halves := fun w9 hw9 => List.mem_cons_of_mem _ (igX8 w9 hw9)
  have fl63 := hts (.fieldLink RX8 63 "HalfScalesModel" "people" "I") (List.mem_cons_of_mem _ (hs_inG 4 83 rfl rfl))
  have fl13 := hts (.fieldLink RX8 13 "HalfScalesModel" "at" "[I") (List.mem_cons_of_mem _ (hs_inG 4 81 rfl rfl))
  have kc235 := hts (.constant RX8 235 (1000000)) (List.mem_cons_of_mem _ (hs_inG 5 163 rfl rfl))
  have hpw : 2 ^ c0 ≤ 256 := Nat.le_trans (Nat.pow_le_pow_right (n := 2) (by decide) h0) (by decide)
  have hp1 : 1 ≤ 2 ^ c0 := Nat.one_le_two_pow
  subst hsz
  have hD := hD0.self (sz := s.heap.size)
  generalize hAe : va_A [oq7 mo mo_st mo_at mo_isKept (nI mo_pe) (nI mo_hm) mo_draft (nI mo_dp) (nI mo_dh) mo_toldLines mo_highest mo_tape (nI mo_tl) (nI mo_ps) (nI mo_fr) mo_sort mo_value (nI mo_ft) mo_wrongAt mo_row mo_orderMany (nI mo_fo) mo_lightest mo_heaviest mo_before mo_justSum mo_toldSum mo_allWays mo_lanes mo_sizes mo_cells mo_torn mo_had, oqI k mo_st 132 (sf), oqI k mo_at 44 (af)] s.heap.size = A at hD ⊢
  have hA : ∀ q : Nat, s.heap.size ≤ q → A q := fun q h => by rw [← hAe]; exact Or.inr h
  have hS : va_S A s.heap s.heap [] := va_S.rf
  have hl := lv_entry ([.ref mo, .int a, .int what]) (n := 8) (Nat.le_of_ble_eq_true rfl)
  rw [lg_entry_eq]
  generalize (lg_sl ([.ref mo, .int a, .int what]) ++ List.replicate (8 - (lg_sl ([.ref mo, .int a, .int what])).length) Slot.unset).toArray = ls at hl ⊢
  have hl : lv_has ls 8 [(0, .ref mo), (1, .int a), (2, .int what)] := hl
  have hP : va_P D vwCl [oq7 mo mo_st mo_at mo_isKept (nI mo_pe) (nI mo_hm) mo_draft (nI mo_dp) (nI mo_dh) mo_toldLines mo_highest mo_tape (nI mo_tl) (nI mo_ps) (nI mo_fr) mo_sort mo_value (nI mo_ft) mo_wrongAt mo_row mo_orderMany (nI mo_fo) mo_lightest mo_heaviest mo_before mo_justSum mo_toldSum mo_allWays mo_lanes mo_sizes mo_cells mo_torn mo_had, oqI k mo_st 132 (sf), oqI k mo_at 44 (af)] s.heap := hP
  refine lv_iload_n hx hb dX8_halves_0 rfl (lv_at hl 1 rfl) ?_
  refine lv_i2l hx hb dX8_halves_1 rfl ?_
  refine lv_lconst (v := 0) hx hb dX8_halves_2 (by decide) ?_
  refine lv_iconst (v := 1) hx hb dX8_halves_3 hki_1 ?_
  refine lv_aload_n hx hb dX8_halves_4 rfl (lv_at hl 0 rfl) ?_
  refine va_get (D := D) (ci := 7) (v := .int (nI mo_pe)) (C := RX8) (T := TX8) (N := 32) hx hb hts hiX8 hown hK hP 0 rfl rfl 3 (Nat.le_of_ble_eq_true rfl) fl63 (fun _ h9 => h9) rfl dX8_halves_5 ?_
  refine lv_ishl hx hb dX8_halves_8 ?_
  refine lv_iconst (v := 1) hx hb dX8_halves_9 hki_1 ?_
  refine lv_isub hx hb dX8_halves_10 ?_
  refine lv_i2l hx hb dX8_halves_11 rfl ?_
  refine hs_pi (va_runS (As := [.long (((a) : Int32).toInt64), .long 0, .long ((((1 <<< ((nI mo_pe) &&& 31)) - 1) : Int32).toInt64)]) (rest := []) ⟨hx, hb, hml, hown, hts⟩ (gm_in l D k _ a 0 ((1 <<< ((nI mo_pe) &&& 31)) - 1)) (va_cwS 3 hts gX8_halves_X8_in rfl rfl rfl hq_X8_in ⟨Nat.le_of_ble_eq_true rfl, Nat.le_of_ble_eq_true rfl⟩) (hs_preS hK hN (hs_subP (w := []) hP [] rfl) (hD.sub (ws' := []) [] rfl rfl)) rfl rfl hl.1 rfl (lv_room (Nat.le_of_ble_eq_true rfl)) dX8_halves_12 ⟨Nat.le_of_ble_eq_true rfl, Nat.le_of_ble_eq_true rfl⟩) hP hD hS hA (fun r_1 u_3 H locs hw_2 hP hS => ?_)
  refine hs_topi (hsb (hsin a 0 ((1 <<< ((nI mo_pe) &&& 31)) - 1))) hw_2 ?_
  refine lv_if_eq (tgt := 25) hx hb dX8_halves_15 rfl (fun c_4 => ?_) (fun c_4 => ?_)
  · refine lv_iconst (v := (-1)) hx hb dX8_halves_25 hki_m1 ?_
    exact hs_iret hx hb hr hlocks hK hP hD hS af [0, 1, 2] rfl (hs_upnd rfl) dX8_halves_26 (trivial)
  · refine lv_iload_n hx hb dX8_halves_18 rfl (lv_at hl 2 rfl) ?_
    refine hs_pi (va_runS (As := [.int what]) (rest := []) ⟨hx, hb, hml, hown, hts⟩ (gm_isPart l D k _ what) (va_cwS 1 hts gX8_halves_X8_isPart rfl rfl rfl hq_X8_isPart ⟨Nat.le_of_ble_eq_true rfl, Nat.le_of_ble_eq_true rfl⟩) (hs_preS hK hN (hs_subP (w := []) hP [] rfl) (hD.sub (ws' := []) [] rfl rfl)) rfl rfl hl.1 rfl (lv_room (Nat.le_of_ble_eq_true rfl)) dX8_halves_19 ⟨Nat.le_of_ble_eq_true rfl, Nat.le_of_ble_eq_true rfl⟩) hP hD hS hA (fun r_5 u_7 H locs hw_6 hP hS => ?_)
    refine hs_topi (hsb (hsin what 0 1)) hw_6 ?_
    refine lv_if_ne (tgt := 27) hx hb dX8_halves_22 rfl (fun c_8 => ?_) (fun c_8 => ?_)
    · refine lv_aload_n hx hb dX8_halves_27 rfl (lv_at hl 0 rfl) ?_
      refine hs_cvM (va_runV (As := []) (rest := []) ⟨hx, hb, hml, hown, hts⟩ (gm_starts l D k _ mo mo_st mo_at mo_isKept mo_pe mo_hm mo_draft mo_dp mo_dh mo_toldLines mo_highest mo_tape mo_tl mo_ps mo_fr mo_sort mo_value mo_ft mo_wrongAt mo_row mo_orderMany mo_fo mo_lightest mo_heaviest mo_before mo_justSum mo_toldSum mo_allWays mo_lanes mo_sizes mo_cells mo_torn mo_had sf af) (cwV 0 hts gX8_halves_X8_starts rfl rfl rfl ⟨rfl, hq_X8_starts⟩ ⟨Nat.le_of_ble_eq_true rfl, Nat.le_of_ble_eq_true rfl⟩) (hs_preV hK hN (hs_subP (w := [_, _, _]) hP [0, 1, 2] rfl) (hD.sub (ws' := [_, _, _]) [0, 1, 2] (hs_upnd rfl) rfl) (ci := 7) (q0 := 0) rfl rfl) rfl rfl hl.1 rfl (lv_room (Nat.le_of_ble_eq_true rfl)) dX8_halves_28 ⟨Nat.le_of_ble_eq_true rfl, Nat.le_of_ble_eq_true rfl⟩) hP hD hS hA [false, false, false] [] [_, _, _] rfl [0, 1, 2] rfl [0, 1, 2] (fun u_11 => [_, _, _]) (fun _ => rfl) (hs_upnd rfl) [false, false, false] (fun u_11 => [_, _, _]) (fun _ => rfl) (fun u_11 H locs hw_10 hP hD hS => ?_)
      have hw_10 : ∀ j, j < 44 → u_11 j = sf j := hw_10
      have e0a : u_11 0 = nI c0 := (hw_10 0 (by decide)).trans e0
      have e3a : u_11 16 = nI c3 := (hw_10 16 (by decide)).trans e3
      have e4a : u_11 25 = nI c4 := (hw_10 25 (by decide)).trans e4
      have hw_10 : ∀ j, j < 44 → u_11 j = sf j := hw_10
      refine lv_ldc hx hb hown kc235 dX8_halves_31 ?_
      refine lv_istore_n (lv' := [(3, .int 1000000), (0, .ref mo), (1, .int a), (2, .int what)]) hx hb dX8_halves_33 rfl hl (Nat.le_of_ble_eq_true rfl) rfl (fun ls hl => ?_)
      refine lv_bipush (v := (-4)) hx hb dX8_halves_34 hkb_m4 ?_
      refine lv_istore (lv' := [(4, .int (-4)), (3, .int 1000000), (0, .ref mo), (1, .int a), (2, .int what)]) hx hb dX8_halves_36 hl (Nat.le_of_ble_eq_true rfl) rfl (fun ls hl => ?_)
      refine lv_iconst (v := 0) hx hb dX8_halves_38 hki_0 ?_
      refine lv_istore (lv' := [(5, .int 0), (4, .int (-4)), (3, .int 1000000), (0, .ref mo), (1, .int a), (2, .int what)]) hx hb dX8_halves_39 hl (Nat.le_of_ble_eq_true rfl) rfl (fun ls hl => ?_)
      refine hs_while (σ := Int32 × Int32 × Nat) (fun x => x.2.2 ≤ 2 ^ c0) (fun x => 2 ^ c0 - x.2.2) (fun x => [oq7 mo mo_st mo_at mo_isKept (nI mo_pe) (nI mo_hm) mo_draft (nI mo_dp) (nI mo_dh) mo_toldLines mo_highest mo_tape (nI mo_tl) (nI mo_ps) (nI mo_fr) mo_sort mo_value (nI mo_ft) mo_wrongAt mo_row mo_orderMany (nI mo_fo) mo_lightest mo_heaviest mo_before mo_justSum mo_toldSum mo_allWays mo_lanes mo_sizes mo_cells mo_torn mo_had, oqI k mo_st 132 (sf), oqI k mo_at 44 (u_11)]) (fun x => [(5, .int (nI (x.2.2))), (4, .int (x.2.1)), (3, .int (x.1)), (0, .ref mo), (1, .int a), (2, .int what)]) ?_ (1000000, (-4), 0) ?_ hP hD hS hl
      · intro x hI ih41 H locs ls hP hD hS hl
        obtain ⟨few, fo, se⟩ := x
        try dsimp only at hI
        have hP : va_P D vwCl [_, _, _] H := hP
        have hD : va_D A [_, _, _] := hD
        have hl : lv_has ls 8 [(5, .int (nI se)), (4, .int fo), (3, .int few), (0, .ref mo), (1, .int a), (2, .int what)] := hl
        refine lv_iload hx hb dX8_halves_41 (lv_at hl 0 rfl) ?_
        refine lv_aload_n hx hb dX8_halves_43 rfl (lv_at hl 3 rfl) ?_
        refine hs_ciM (va_runV (As := []) (rest := [.int (nI se)]) ⟨hx, hb, hml, hown, hts⟩ (gm_every l D k _ mo mo_st mo_at mo_isKept mo_pe mo_hm mo_draft mo_dp mo_dh mo_toldLines mo_highest mo_tape mo_tl mo_ps mo_fr mo_sort mo_value mo_ft mo_wrongAt mo_row mo_orderMany mo_fo mo_lightest mo_heaviest mo_before mo_justSum mo_toldSum mo_allWays mo_lanes mo_sizes mo_cells mo_torn mo_had u_11 c0 (by first | exact e0a | exact e0) (by omega)) (cwV 0 hts gX8_halves_X8_every rfl rfl rfl ⟨rfl, hq_X8_every⟩ ⟨Nat.le_of_ble_eq_true rfl, Nat.le_of_ble_eq_true rfl⟩) (hs_preV hK hN (hs_subP (w := [_, _]) hP [0, 2] rfl) (hD.sub (ws' := [_, _]) [0, 2] (hs_upnd rfl) rfl) (ci := 7) (q0 := 0) rfl rfl) rfl rfl hl.1 rfl (lv_room (Nat.le_of_ble_eq_true rfl)) dX8_halves_44 ⟨Nat.le_of_ble_eq_true rfl, Nat.le_of_ble_eq_true rfl⟩) hP hD hS hA [false, true, false] [_] [_, _] rfl [0, 1] rfl [0, 1] (fun u_14 => [_, _]) (fun _ => rfl) (hs_upnd rfl) [false, true, false] (fun u_14 => [_, _, _]) (fun _ => rfl) (fun r_12 u_14 H locs hw_13 hP hD hS => ?_)
        refine hs_topi (nI (2 ^ c0 - 1)) hw_13 ?_
        refine lv_icmp_gt (tgt := 163) hx hb dX8_halves_47 rfl (fun c_15 => ?_) (fun c_15 => ?_)
        · have nc_15 : (2 ^ c0 - 1) < se := (nI_ltI (a := (2 ^ c0 - 1)) (b := se) (by omega) (by omega)).mp c_15
          refine lv_iload hx hb dX8_halves_163 (lv_at hl 1 rfl) ?_
          refine lv_bipush (v := (-4)) hx hb dX8_halves_165 hkb_m4 ?_
          refine lv_icmp_ne (tgt := 175) hx hb dX8_halves_167 rfl (fun c_16 => ?_) (fun c_16 => ?_)
          · refine lv_iload_n hx hb dX8_halves_175 rfl (lv_at hl 5 rfl) ?_
            refine lv_if_ne (tgt := 183) hx hb dX8_halves_176 rfl (fun c_17 => ?_) (fun c_17 => ?_)
            · refine lv_iload hx hb dX8_halves_183 (lv_at hl 1 rfl) ?_
              exact hs_iret hx hb hr hlocks hK hP hD hS u_11 [0, 1, 2] rfl (hs_upnd rfl) dX8_halves_185 (trivial)
            · refine lv_iload_n hx hb dX8_halves_179 rfl (lv_at hl 2 rfl) ?_
              refine lv_goto (tgt := 185) hx hb dX8_halves_180 rfl ?_
              exact hs_iret hx hb hr hlocks hK hP hD hS u_11 [0, 1, 2] rfl (hs_upnd rfl) dX8_halves_185 (trivial)
          · refine lv_bipush (v := (-4)) hx hb dX8_halves_170 hkb_m4 ?_
            refine lv_goto (tgt := 185) hx hb dX8_halves_172 rfl ?_
            exact hs_iret hx hb hr hlocks hK hP hD hS u_11 [0, 1, 2] rfl (hs_upnd rfl) dX8_halves_185 (trivial)
        · have nc_15 : ¬ (2 ^ c0 - 1) < se := fun hq9 => c_15 ((nI_ltI (a := (2 ^ c0 - 1)) (b := se) (by omega) (by omega)).mpr hq9)
          refine lv_aload_n hx hb dX8_halves_50 rfl (lv_at hl 3 rfl) ?_
          refine lv_iload hx hb dX8_halves_51 (lv_at hl 0 rfl) ?_
          refine hs_ciM (va_runV (As := [.int (nI se)]) (rest := []) ⟨hx, hb, hml, hown, hts⟩ (gm_cutsOf l D k _ mo mo_st mo_at mo_isKept mo_pe mo_hm mo_draft mo_dp mo_dh mo_toldLines mo_highest mo_tape mo_tl mo_ps mo_fr mo_sort mo_value mo_ft mo_wrongAt mo_row mo_orderMany mo_fo mo_lightest mo_heaviest mo_before mo_justSum mo_toldSum mo_allWays mo_lanes mo_sizes mo_cells mo_torn mo_had u_11 c0 (nI se) (by first | exact e0a | exact e0) (by omega)) (cwV 1 hts gX8_halves_X8_cutsOf rfl rfl rfl ⟨rfl, hq_X8_cutsOf⟩ ⟨Nat.le_of_ble_eq_true rfl, Nat.le_of_ble_eq_true rfl⟩) (hs_preV hK hN (hs_subP (w := [_, _]) hP [0, 2] rfl) (hD.sub (ws' := [_, _]) [0, 2] (hs_upnd rfl) rfl) (ci := 7) (q0 := 0) rfl rfl) rfl rfl hl.1 rfl (lv_room (Nat.le_of_ble_eq_true rfl)) dX8_halves_53 ⟨Nat.le_of_ble_eq_true rfl, Nat.le_of_ble_eq_true rfl⟩) hP hD hS hA [false, true, false] [_] [_, _] rfl [0, 1] rfl [0, 1] (fun u_20 => [_, _]) (fun _ => rfl) (hs_upnd rfl) [false, true, false] (fun u_20 => [_, _, _]) (fun _ => rfl) (fun r_18 u_20 H locs hw_19 hP hD hS => ?_)
          refine lv_iload_n hx hb dX8_halves_56 rfl (lv_at hl 2 rfl) ?_
          refine lv_icmp_ge (tgt := 64) hx hb dX8_halves_57 rfl (fun c_21 => ?_) (fun c_21 => ?_)
          · refine lv_iconst (v := 0) hx hb dX8_halves_64 hki_0 ?_
            refine lv_istore (lv' := [(6, .int 0), (5, .int (nI se)), (4, .int fo), (3, .int few), (0, .ref mo), (1, .int a), (2, .int what)]) hx hb dX8_halves_65 hl (Nat.le_of_ble_eq_true rfl) rfl (fun ls hl => ?_)
            refine lv_iconst (v := 0) hx hb dX8_halves_67 hki_0 ?_
            refine lv_istore (lv' := [(7, .int 0), (6, .int 0), (5, .int (nI se)), (4, .int fo), (3, .int few), (0, .ref mo), (1, .int a), (2, .int what)]) hx hb dX8_halves_68 hl (Nat.le_of_ble_eq_true rfl) rfl (fun ls hl => ?_)
            refine hs_while (σ := Int32 × Nat) (fun x => x.2 ≤ mo_pe) (fun x => mo_pe - x.2) (fun x => [oq7 mo mo_st mo_at mo_isKept (nI mo_pe) (nI mo_hm) mo_draft (nI mo_dp) (nI mo_dh) mo_toldLines mo_highest mo_tape (nI mo_tl) (nI mo_ps) (nI mo_fr) mo_sort mo_value (nI mo_ft) mo_wrongAt mo_row mo_orderMany (nI mo_fo) mo_lightest mo_heaviest mo_before mo_justSum mo_toldSum mo_allWays mo_lanes mo_sizes mo_cells mo_torn mo_had, oqI k mo_st 132 (sf), oqI k mo_at 44 (u_11)]) (fun x => [(7, .int (nI (x.2))), (6, .int (x.1)), (5, .int (nI se)), (4, .int fo), (3, .int few), (0, .ref mo), (1, .int a), (2, .int what)]) ?_ (0, 0) ?_ hP hD hS hl
            · intro x hI ih70 H locs ls hP hD hS hl
              obtain ⟨iz, q⟩ := x
              try dsimp only at hI
              have hP : va_P D vwCl [_, _, _] H := hP
              have hD : va_D A [_, _, _] := hD
              have hl : lv_has ls 8 [(7, .int (nI q)), (6, .int iz), (5, .int (nI se)), (4, .int fo), (3, .int few), (0, .ref mo), (1, .int a), (2, .int what)] := hl
              refine lv_iload hx hb dX8_halves_70 (lv_at hl 0 rfl) ?_
              refine lv_aload_n hx hb dX8_halves_72 rfl (lv_at hl 5 rfl) ?_
              refine va_get (D := D) (ci := 7) (v := .int (nI mo_pe)) (C := RX8) (T := TX8) (N := 32) hx hb hts hiX8 hown hK hP 0 rfl rfl 3 (Nat.le_of_ble_eq_true rfl) fl63 (fun _ h9 => h9) rfl dX8_halves_73 ?_
              refine lv_icmp_ge (tgt := 127) hx hb dX8_halves_76 rfl (fun c_22 => ?_) (fun c_22 => ?_)
              · have nc_22 : mo_pe ≤ q := (nI_leI (a := mo_pe) (b := q) (by omega) (by omega)).mp c_22
                refine lv_iload hx hb dX8_halves_127 (lv_at hl 1 rfl) ?_
                refine lv_if_eq (tgt := 137) hx hb dX8_halves_129 rfl (fun c_23 => ?_) (fun c_23 => ?_)
                · refine lv_iload hx hb dX8_halves_137 (lv_at hl 3 rfl) ?_
                  refine lv_istore (lv' := [(4, .int fo), (7, .int (nI q)), (6, .int iz), (5, .int (nI se)), (3, .int few), (0, .ref mo), (1, .int a), (2, .int what)]) hx hb dX8_halves_139 hl (Nat.le_of_ble_eq_true rfl) rfl (fun ls hl => ?_)
                  refine lv_iload hx hb dX8_halves_141 (lv_at hl 2 rfl) ?_
                  refine lv_if_eq (tgt := 155) hx hb dX8_halves_143 rfl (fun c_24 => ?_) (fun c_24 => ?_)
                  · refine lv_iload_n hx hb dX8_halves_155 rfl (lv_at hl 4 rfl) ?_
                    refine lv_istore_n (lv' := [(3, .int few), (4, .int fo), (7, .int (nI q)), (6, .int iz), (5, .int (nI se)), (0, .ref mo), (1, .int a), (2, .int what)]) hx hb dX8_halves_156 rfl hl (Nat.le_of_ble_eq_true rfl) rfl (fun ls hl => ?_)
                    refine lv_iinc (v := nI (se + 1)) (lv' := [(5, .int (nI (se + 1))), (3, .int few), (4, .int fo), (7, .int (nI q)), (6, .int iz), (0, .ref mo), (1, .int a), (2, .int what)]) hx hb dX8_halves_157 hl (k := 4) rfl (nI_add (se) 1) (Nat.le_of_ble_eq_true rfl) rfl (fun ls hl => ?_)
                    refine lv_goto (tgt := 41) hx hb dX8_halves_160 rfl ?_
                    exact ih41 (few, fo, se + 1) (by (try dsimp only); first | omega | (refine ⟨?_, ?_⟩ <;> first | omega | assumption)) (by (try dsimp only); omega) _ _ _ hP hD hS (lv_sub hl [0, 2, 1, 5, 6, 7] rfl)
                  · refine lv_aload_n hx hb dX8_halves_146 rfl (lv_at hl 5 rfl) ?_
                    refine lv_iload hx hb dX8_halves_147 (lv_at hl 3 rfl) ?_
                    refine hs_ciM (va_runV (As := [.int (nI se)]) (rest := []) ⟨hx, hb, hml, hown, hts⟩ (gm_cutsOf l D k _ mo mo_st mo_at mo_isKept mo_pe mo_hm mo_draft mo_dp mo_dh mo_toldLines mo_highest mo_tape mo_tl mo_ps mo_fr mo_sort mo_value mo_ft mo_wrongAt mo_row mo_orderMany mo_fo mo_lightest mo_heaviest mo_before mo_justSum mo_toldSum mo_allWays mo_lanes mo_sizes mo_cells mo_torn mo_had u_11 c0 (nI se) (by first | exact e0a | exact e0) (by omega)) (cwV 1 hts gX8_halves_X8_cutsOf rfl rfl rfl ⟨rfl, hq_X8_cutsOf⟩ ⟨Nat.le_of_ble_eq_true rfl, Nat.le_of_ble_eq_true rfl⟩) (hs_preV hK hN (hs_subP (w := [_, _]) hP [0, 2] rfl) (hD.sub (ws' := [_, _]) [0, 2] (hs_upnd rfl) rfl) (ci := 7) (q0 := 0) rfl rfl) rfl rfl hl.1 rfl (lv_room (Nat.le_of_ble_eq_true rfl)) dX8_halves_149 ⟨Nat.le_of_ble_eq_true rfl, Nat.le_of_ble_eq_true rfl⟩) hP hD hS hA [false, true, false] [_] [_, _] rfl [0, 1] rfl [0, 1] (fun u_27 => [_, _]) (fun _ => rfl) (hs_upnd rfl) [false, true, false] (fun u_27 => [_, _, _]) (fun _ => rfl) (fun r_25 u_27 H locs hw_26 hP hD hS => ?_)
                    refine lv_goto (tgt := 156) hx hb dX8_halves_152 rfl ?_
                    refine lv_istore_n (lv' := [(3, .int r_25), (4, .int fo), (7, .int (nI q)), (6, .int iz), (5, .int (nI se)), (0, .ref mo), (1, .int a), (2, .int what)]) hx hb dX8_halves_156 rfl hl (Nat.le_of_ble_eq_true rfl) rfl (fun ls hl => ?_)
                    refine lv_iinc (v := nI (se + 1)) (lv' := [(5, .int (nI (se + 1))), (3, .int r_25), (4, .int fo), (7, .int (nI q)), (6, .int iz), (0, .ref mo), (1, .int a), (2, .int what)]) hx hb dX8_halves_157 hl (k := 4) rfl (nI_add (se) 1) (Nat.le_of_ble_eq_true rfl) rfl (fun ls hl => ?_)
                    refine lv_goto (tgt := 41) hx hb dX8_halves_160 rfl ?_
                    exact ih41 (r_25, fo, se + 1) (by (try dsimp only); first | omega | (refine ⟨?_, ?_⟩ <;> first | omega | assumption)) (by (try dsimp only); omega) _ _ _ hP hD hS (lv_sub hl [0, 2, 1, 5, 6, 7] rfl)
                · refine lv_iload hx hb dX8_halves_132 (lv_at hl 2 rfl) ?_
                  refine lv_goto (tgt := 139) hx hb dX8_halves_134 rfl ?_
                  refine lv_istore (lv' := [(4, .int (nI se)), (7, .int (nI q)), (6, .int iz), (5, .int (nI se)), (3, .int few), (0, .ref mo), (1, .int a), (2, .int what)]) hx hb dX8_halves_139 hl (Nat.le_of_ble_eq_true rfl) rfl (fun ls hl => ?_)
                  refine lv_iload hx hb dX8_halves_141 (lv_at hl 2 rfl) ?_
                  refine lv_if_eq (tgt := 155) hx hb dX8_halves_143 rfl (fun c_28 => ?_) (fun c_28 => ?_)
                  · refine lv_iload_n hx hb dX8_halves_155 rfl (lv_at hl 4 rfl) ?_
                    refine lv_istore_n (lv' := [(3, .int few), (4, .int (nI se)), (7, .int (nI q)), (6, .int iz), (5, .int (nI se)), (0, .ref mo), (1, .int a), (2, .int what)]) hx hb dX8_halves_156 rfl hl (Nat.le_of_ble_eq_true rfl) rfl (fun ls hl => ?_)
                    refine lv_iinc (v := nI (se + 1)) (lv' := [(5, .int (nI (se + 1))), (3, .int few), (4, .int (nI se)), (7, .int (nI q)), (6, .int iz), (0, .ref mo), (1, .int a), (2, .int what)]) hx hb dX8_halves_157 hl (k := 4) rfl (nI_add (se) 1) (Nat.le_of_ble_eq_true rfl) rfl (fun ls hl => ?_)
                    refine lv_goto (tgt := 41) hx hb dX8_halves_160 rfl ?_
                    exact ih41 (few, nI se, se + 1) (by (try dsimp only); first | omega | (refine ⟨?_, ?_⟩ <;> first | omega | assumption)) (by (try dsimp only); omega) _ _ _ hP hD hS (lv_sub hl [0, 2, 1, 5, 6, 7] rfl)
                  · refine lv_aload_n hx hb dX8_halves_146 rfl (lv_at hl 5 rfl) ?_
                    refine lv_iload hx hb dX8_halves_147 (lv_at hl 3 rfl) ?_
                    refine hs_ciM (va_runV (As := [.int (nI se)]) (rest := []) ⟨hx, hb, hml, hown, hts⟩ (gm_cutsOf l D k _ mo mo_st mo_at mo_isKept mo_pe mo_hm mo_draft mo_dp mo_dh mo_toldLines mo_highest mo_tape mo_tl mo_ps mo_fr mo_sort mo_value mo_ft mo_wrongAt mo_row mo_orderMany mo_fo mo_lightest mo_heaviest mo_before mo_justSum mo_toldSum mo_allWays mo_lanes mo_sizes mo_cells mo_torn mo_had u_11 c0 (nI se) (by first | exact e0a | exact e0) (by omega)) (cwV 1 hts gX8_halves_X8_cutsOf rfl rfl rfl ⟨rfl, hq_X8_cutsOf⟩ ⟨Nat.le_of_ble_eq_true rfl, Nat.le_of_ble_eq_true rfl⟩) (hs_preV hK hN (hs_subP (w := [_, _]) hP [0, 2] rfl) (hD.sub (ws' := [_, _]) [0, 2] (hs_upnd rfl) rfl) (ci := 7) (q0 := 0) rfl rfl) rfl rfl hl.1 rfl (lv_room (Nat.le_of_ble_eq_true rfl)) dX8_halves_149 ⟨Nat.le_of_ble_eq_true rfl, Nat.le_of_ble_eq_true rfl⟩) hP hD hS hA [false, true, false] [_] [_, _] rfl [0, 1] rfl [0, 1] (fun u_31 => [_, _]) (fun _ => rfl) (hs_upnd rfl) [false, true, false] (fun u_31 => [_, _, _]) (fun _ => rfl) (fun r_29 u_31 H locs hw_30 hP hD hS => ?_)
                    refine lv_goto (tgt := 156) hx hb dX8_halves_152 rfl ?_
                    refine lv_istore_n (lv' := [(3, .int r_29), (4, .int (nI se)), (7, .int (nI q)), (6, .int iz), (5, .int (nI se)), (0, .ref mo), (1, .int a), (2, .int what)]) hx hb dX8_halves_156 rfl hl (Nat.le_of_ble_eq_true rfl) rfl (fun ls hl => ?_)
                    refine lv_iinc (v := nI (se + 1)) (lv' := [(5, .int (nI (se + 1))), (3, .int r_29), (4, .int (nI se)), (7, .int (nI q)), (6, .int iz), (0, .ref mo), (1, .int a), (2, .int what)]) hx hb dX8_halves_157 hl (k := 4) rfl (nI_add (se) 1) (Nat.le_of_ble_eq_true rfl) rfl (fun ls hl => ?_)
                    refine lv_goto (tgt := 41) hx hb dX8_halves_160 rfl ?_
                    exact ih41 (r_29, nI se, se + 1) (by (try dsimp only); first | omega | (refine ⟨?_, ?_⟩ <;> first | omega | assumption)) (by (try dsimp only); omega) _ _ _ hP hD hS (lv_sub hl [0, 2, 1, 5, 6, 7] rfl)
              · have nc_22 : ¬ mo_pe ≤ q := fun hq9 => c_22 ((nI_leI (a := mo_pe) (b := q) (by omega) (by omega)).mpr hq9)
                refine lv_iload hx hb dX8_halves_79 (lv_at hl 1 rfl) ?_
                refine lv_if_eq (tgt := 118) hx hb dX8_halves_81 rfl (fun c_32 => ?_) (fun c_32 => ?_)
                · refine lv_iconst (v := 0) hx hb dX8_halves_118 hki_0 ?_
                  refine lv_istore (lv' := [(6, .int 0), (7, .int (nI q)), (5, .int (nI se)), (4, .int fo), (3, .int few), (0, .ref mo), (1, .int a), (2, .int what)]) hx hb dX8_halves_119 hl (Nat.le_of_ble_eq_true rfl) rfl (fun ls hl => ?_)
                  refine lv_iinc (v := nI (q + 1)) (lv' := [(7, .int (nI (q + 1))), (6, .int 0), (5, .int (nI se)), (4, .int fo), (3, .int few), (0, .ref mo), (1, .int a), (2, .int what)]) hx hb dX8_halves_121 hl (k := 1) rfl (nI_add (q) 1) (Nat.le_of_ble_eq_true rfl) rfl (fun ls hl => ?_)
                  refine lv_goto (tgt := 70) hx hb dX8_halves_124 rfl ?_
                  exact ih70 (0, q + 1) (by (try dsimp only); first | omega | (refine ⟨?_, ?_⟩ <;> first | omega | assumption)) (by (try dsimp only); omega) _ _ _ hP hD hS (lv_sub hl [0, 1, 2, 3, 4, 5, 6, 7] rfl)
                · refine lv_iload_n hx hb dX8_halves_84 rfl (lv_at hl 6 rfl) ?_
                  refine lv_iload hx hb dX8_halves_85 (lv_at hl 0 rfl) ?_
                  refine lv_ishr hx hb dX8_halves_87 ?_
                  refine lv_iconst (v := 1) hx hb dX8_halves_88 hki_1 ?_
                  refine lv_iand hx hb dX8_halves_89 ?_
                  refine lv_if_eq (tgt := 114) hx hb dX8_halves_90 rfl (fun c_33 => ?_) (fun c_33 => ?_)
                  · refine lv_iconst (v := 1) hx hb dX8_halves_114 hki_1 ?_
                    refine lv_goto (tgt := 119) hx hb dX8_halves_115 rfl ?_
                    refine lv_istore (lv' := [(6, .int 1), (7, .int (nI q)), (5, .int (nI se)), (4, .int fo), (3, .int few), (0, .ref mo), (1, .int a), (2, .int what)]) hx hb dX8_halves_119 hl (Nat.le_of_ble_eq_true rfl) rfl (fun ls hl => ?_)
                    refine lv_iinc (v := nI (q + 1)) (lv' := [(7, .int (nI (q + 1))), (6, .int 1), (5, .int (nI se)), (4, .int fo), (3, .int few), (0, .ref mo), (1, .int a), (2, .int what)]) hx hb dX8_halves_121 hl (k := 1) rfl (nI_add (q) 1) (Nat.le_of_ble_eq_true rfl) rfl (fun ls hl => ?_)
                    refine lv_goto (tgt := 70) hx hb dX8_halves_124 rfl ?_
                    exact ih70 (1, q + 1) (by (try dsimp only); first | omega | (refine ⟨?_, ?_⟩ <;> first | omega | assumption)) (by (try dsimp only); omega) _ _ _ hP hD hS (lv_sub hl [0, 1, 2, 3, 4, 5, 6, 7] rfl)
                  · refine lv_aload_n hx hb dX8_halves_93 rfl (lv_at hl 5 rfl) ?_
                    refine lv_iload hx hb dX8_halves_94 (lv_at hl 0 rfl) ?_
                    refine lv_iload hx hb dX8_halves_96 (lv_at hl 2 rfl) ?_
                    refine hs_ciM (va_runV (As := [.int (nI q), .int (nI se)]) (rest := []) ⟨hx, hb, hml, hown, hts⟩ (gm_moreLeft l D k _ mo mo_st mo_at mo_isKept mo_pe mo_hm mo_draft mo_dp mo_dh mo_toldLines mo_highest mo_tape mo_tl mo_ps mo_fr mo_sort mo_value mo_ft mo_wrongAt mo_row mo_orderMany mo_fo mo_lightest mo_heaviest mo_before mo_justSum mo_toldSum mo_allWays mo_lanes mo_sizes mo_cells mo_torn mo_had u_11 c0 q (nI se) (by first | exact e0a | exact e0) (by omega) (by omega)) (cwV 2 hts gX8_halves_X8_moreLeft rfl rfl rfl ⟨rfl, hq_X8_moreLeft⟩ ⟨Nat.le_of_ble_eq_true rfl, Nat.le_of_ble_eq_true rfl⟩) (hs_preV hK hN (hs_subP (w := [_, _]) hP [0, 2] rfl) (hD.sub (ws' := [_, _]) [0, 2] (hs_upnd rfl) rfl) (ci := 7) (q0 := 0) rfl rfl) rfl rfl hl.1 rfl (lv_room (Nat.le_of_ble_eq_true rfl)) dX8_halves_98 ⟨Nat.le_of_ble_eq_true rfl, Nat.le_of_ble_eq_true rfl⟩) hP hD hS hA [false, true, false] [_] [_, _] rfl [0, 1] rfl [0, 1] (fun u_36 => [_, _]) (fun _ => rfl) (hs_upnd rfl) [false, true, false] (fun u_36 => [_, _, _]) (fun _ => rfl) (fun r_34 u_36 H locs hw_35 hP hD hS => ?_)
                    refine hs_pi (va_runS (As := [.int r_34]) (rest := []) ⟨hx, hb, hml, hown, hts⟩ (gm_sizeOf l D k _ r_34) (va_cwS 1 hts gX8_halves_X8_sizeOf rfl rfl rfl hq_X8_sizeOf ⟨Nat.le_of_ble_eq_true rfl, Nat.le_of_ble_eq_true rfl⟩) (hs_preS hK hN (hs_subP (w := []) hP [] rfl) (hD.sub (ws' := []) [] rfl rfl)) rfl rfl hl.1 rfl (lv_room (Nat.le_of_ble_eq_true rfl)) dX8_halves_101 ⟨Nat.le_of_ble_eq_true rfl, Nat.le_of_ble_eq_true rfl⟩) hP hD hS hA (fun r_37 u_39 H locs hw_38 hP hS => ?_)
                    refine lv_aload_n hx hb dX8_halves_104 rfl (lv_at hl 5 rfl) ?_
                    refine va_get (D := D) (ci := 7) (v := .ref mo_at) (C := RX8) (T := TX8) (N := 32) hx hb hts hiX8 hown hK hP 0 rfl rfl 1 (Nat.le_of_ble_eq_true rfl) fl13 (fun _ h9 => h9) rfl dX8_halves_105 ?_
                    refine lv_bipush (v := 13) hx hb dX8_halves_108 hkb_13 ?_
                    refine va_iald hx hb hK hP 2 0 rfl rfl (hs_in (by decide)) dX8_halves_110 ?_
                    refine lv_icmp_gt (tgt := 118) hx hb dX8_halves_111 rfl (fun c_40 => ?_) (fun c_40 => ?_)
                    · refine lv_iconst (v := 0) hx hb dX8_halves_118 hki_0 ?_
                      refine lv_istore (lv' := [(6, .int 0), (7, .int (nI q)), (5, .int (nI se)), (4, .int fo), (3, .int few), (0, .ref mo), (1, .int a), (2, .int what)]) hx hb dX8_halves_119 hl (Nat.le_of_ble_eq_true rfl) rfl (fun ls hl => ?_)
                      refine lv_iinc (v := nI (q + 1)) (lv' := [(7, .int (nI (q + 1))), (6, .int 0), (5, .int (nI se)), (4, .int fo), (3, .int few), (0, .ref mo), (1, .int a), (2, .int what)]) hx hb dX8_halves_121 hl (k := 1) rfl (nI_add (q) 1) (Nat.le_of_ble_eq_true rfl) rfl (fun ls hl => ?_)
                      refine lv_goto (tgt := 70) hx hb dX8_halves_124 rfl ?_
                      exact ih70 (0, q + 1) (by (try dsimp only); first | omega | (refine ⟨?_, ?_⟩ <;> first | omega | assumption)) (by (try dsimp only); omega) _ _ _ hP hD hS (lv_sub hl [0, 1, 2, 3, 4, 5, 6, 7] rfl)
                    · refine lv_iconst (v := 1) hx hb dX8_halves_114 hki_1 ?_
                      refine lv_goto (tgt := 119) hx hb dX8_halves_115 rfl ?_
                      refine lv_istore (lv' := [(6, .int 1), (7, .int (nI q)), (5, .int (nI se)), (4, .int fo), (3, .int few), (0, .ref mo), (1, .int a), (2, .int what)]) hx hb dX8_halves_119 hl (Nat.le_of_ble_eq_true rfl) rfl (fun ls hl => ?_)
                      refine lv_iinc (v := nI (q + 1)) (lv' := [(7, .int (nI (q + 1))), (6, .int 1), (5, .int (nI se)), (4, .int fo), (3, .int few), (0, .ref mo), (1, .int a), (2, .int what)]) hx hb dX8_halves_121 hl (k := 1) rfl (nI_add (q) 1) (Nat.le_of_ble_eq_true rfl) rfl (fun ls hl => ?_)
                      refine lv_goto (tgt := 70) hx hb dX8_halves_124 rfl ?_
                      exact ih70 (1, q + 1) (by (try dsimp only); first | omega | (refine ⟨?_, ?_⟩ <;> first | omega | assumption)) (by (try dsimp only); omega) _ _ _ hP hD hS (lv_sub hl [0, 1, 2, 3, 4, 5, 6, 7] rfl)
            · (try dsimp only); first | omega | (refine ⟨?_, ?_⟩ <;> first | omega | assumption)
          · refine lv_iconst (v := 1) hx hb dX8_halves_60 hki_1 ?_
            refine lv_goto (tgt := 65) hx hb dX8_halves_61 rfl ?_
            refine lv_istore (lv' := [(6, .int 1), (5, .int (nI se)), (4, .int fo), (3, .int few), (0, .ref mo), (1, .int a), (2, .int what)]) hx hb dX8_halves_65 hl (Nat.le_of_ble_eq_true rfl) rfl (fun ls hl => ?_)
            refine lv_iconst (v := 0) hx hb dX8_halves_67 hki_0 ?_
            refine lv_istore (lv' := [(7, .int 0), (6, .int 1), (5, .int (nI se)), (4, .int fo), (3, .int few), (0, .ref mo), (1, .int a), (2, .int what)]) hx hb dX8_halves_68 hl (Nat.le_of_ble_eq_true rfl) rfl (fun ls hl => ?_)
            refine hs_while (σ := Int32 × Nat) (fun x => x.2 ≤ mo_pe) (fun x => mo_pe - x.2) (fun x => [oq7 mo mo_st mo_at mo_isKept (nI mo_pe) (nI mo_hm) mo_draft (nI mo_dp) (nI mo_dh) mo_toldLines mo_highest mo_tape (nI mo_tl) (nI mo_ps) (nI mo_fr) mo_sort mo_value (nI mo_ft) mo_wrongAt mo_row mo_orderMany (nI mo_fo) mo_lightest mo_heaviest mo_before mo_justSum mo_toldSum mo_allWays mo_lanes mo_sizes mo_cells mo_torn mo_had, oqI k mo_st 132 (sf), oqI k mo_at 44 (u_11)]) (fun x => [(7, .int (nI (x.2))), (6, .int (x.1)), (5, .int (nI se)), (4, .int fo), (3, .int few), (0, .ref mo), (1, .int a), (2, .int what)]) ?_ (1, 0) ?_ hP hD hS hl
            · intro x hI ih70 H locs ls hP hD hS hl
              obtain ⟨iz, q⟩ := x
              try dsimp only at hI
              have hP : va_P D vwCl [_, _, _] H := hP
              have hD : va_D A [_, _, _] := hD
              have hl : lv_has ls 8 [(7, .int (nI q)), (6, .int iz), (5, .int (nI se)), (4, .int fo), (3, .int few), (0, .ref mo), (1, .int a), (2, .int what)] := hl
              refine lv_iload hx hb dX8_halves_70 (lv_at hl 0 rfl) ?_
              refine lv_aload_n hx hb dX8_halves_72 rfl (lv_at hl 5 rfl) ?_
              refine va_get (D := D) (ci := 7) (v := .int (nI mo_pe)) (C := RX8) (T := TX8) (N := 32) hx hb hts hiX8 hown hK hP 0 rfl rfl 3 (Nat.le_of_ble_eq_true rfl) fl63 (fun _ h9 => h9) rfl dX8_halves_73 ?_
              refine lv_icmp_ge (tgt := 127) hx hb dX8_halves_76 rfl (fun c_41 => ?_) (fun c_41 => ?_)
              · have nc_41 : mo_pe ≤ q := (nI_leI (a := mo_pe) (b := q) (by omega) (by omega)).mp c_41
                refine lv_iload hx hb dX8_halves_127 (lv_at hl 1 rfl) ?_
                refine lv_if_eq (tgt := 137) hx hb dX8_halves_129 rfl (fun c_42 => ?_) (fun c_42 => ?_)
                · refine lv_iload hx hb dX8_halves_137 (lv_at hl 3 rfl) ?_
                  refine lv_istore (lv' := [(4, .int fo), (7, .int (nI q)), (6, .int iz), (5, .int (nI se)), (3, .int few), (0, .ref mo), (1, .int a), (2, .int what)]) hx hb dX8_halves_139 hl (Nat.le_of_ble_eq_true rfl) rfl (fun ls hl => ?_)
                  refine lv_iload hx hb dX8_halves_141 (lv_at hl 2 rfl) ?_
                  refine lv_if_eq (tgt := 155) hx hb dX8_halves_143 rfl (fun c_43 => ?_) (fun c_43 => ?_)
                  · refine lv_iload_n hx hb dX8_halves_155 rfl (lv_at hl 4 rfl) ?_
                    refine lv_istore_n (lv' := [(3, .int few), (4, .int fo), (7, .int (nI q)), (6, .int iz), (5, .int (nI se)), (0, .ref mo), (1, .int a), (2, .int what)]) hx hb dX8_halves_156 rfl hl (Nat.le_of_ble_eq_true rfl) rfl (fun ls hl => ?_)
                    refine lv_iinc (v := nI (se + 1)) (lv' := [(5, .int (nI (se + 1))), (3, .int few), (4, .int fo), (7, .int (nI q)), (6, .int iz), (0, .ref mo), (1, .int a), (2, .int what)]) hx hb dX8_halves_157 hl (k := 4) rfl (nI_add (se) 1) (Nat.le_of_ble_eq_true rfl) rfl (fun ls hl => ?_)
                    refine lv_goto (tgt := 41) hx hb dX8_halves_160 rfl ?_
                    exact ih41 (few, fo, se + 1) (by (try dsimp only); first | omega | (refine ⟨?_, ?_⟩ <;> first | omega | assumption)) (by (try dsimp only); omega) _ _ _ hP hD hS (lv_sub hl [0, 2, 1, 5, 6, 7] rfl)
                  · refine lv_aload_n hx hb dX8_halves_146 rfl (lv_at hl 5 rfl) ?_
                    refine lv_iload hx hb dX8_halves_147 (lv_at hl 3 rfl) ?_
                    refine hs_ciM (va_runV (As := [.int (nI se)]) (rest := []) ⟨hx, hb, hml, hown, hts⟩ (gm_cutsOf l D k _ mo mo_st mo_at mo_isKept mo_pe mo_hm mo_draft mo_dp mo_dh mo_toldLines mo_highest mo_tape mo_tl mo_ps mo_fr mo_sort mo_value mo_ft mo_wrongAt mo_row mo_orderMany mo_fo mo_lightest mo_heaviest mo_before mo_justSum mo_toldSum mo_allWays mo_lanes mo_sizes mo_cells mo_torn mo_had u_11 c0 (nI se) (by first | exact e0a | exact e0) (by omega)) (cwV 1 hts gX8_halves_X8_cutsOf rfl rfl rfl ⟨rfl, hq_X8_cutsOf⟩ ⟨Nat.le_of_ble_eq_true rfl, Nat.le_of_ble_eq_true rfl⟩) (hs_preV hK hN (hs_subP (w := [_, _]) hP [0, 2] rfl) (hD.sub (ws' := [_, _]) [0, 2] (hs_upnd rfl) rfl) (ci := 7) (q0 := 0) rfl rfl) rfl rfl hl.1 rfl (lv_room (Nat.le_of_ble_eq_true rfl)) dX8_halves_149 ⟨Nat.le_of_ble_eq_true rfl, Nat.le_of_ble_eq_true rfl⟩) hP hD hS hA [false, true, false] [_] [_, _] rfl [0, 1] rfl [0, 1] (fun u_46 => [_, _]) (fun _ => rfl) (hs_upnd rfl) [false, true, false] (fun u_46 => [_, _, _]) (fun _ => rfl) (fun r_44 u_46 H locs hw_45 hP hD hS => ?_)
                    refine lv_goto (tgt := 156) hx hb dX8_halves_152 rfl ?_
                    refine lv_istore_n (lv' := [(3, .int r_44), (4, .int fo), (7, .int (nI q)), (6, .int iz), (5, .int (nI se)), (0, .ref mo), (1, .int a), (2, .int what)]) hx hb dX8_halves_156 rfl hl (Nat.le_of_ble_eq_true rfl) rfl (fun ls hl => ?_)
                    refine lv_iinc (v := nI (se + 1)) (lv' := [(5, .int (nI (se + 1))), (3, .int r_44), (4, .int fo), (7, .int (nI q)), (6, .int iz), (0, .ref mo), (1, .int a), (2, .int what)]) hx hb dX8_halves_157 hl (k := 4) rfl (nI_add (se) 1) (Nat.le_of_ble_eq_true rfl) rfl (fun ls hl => ?_)
                    refine lv_goto (tgt := 41) hx hb dX8_halves_160 rfl ?_
                    exact ih41 (r_44, fo, se + 1) (by (try dsimp only); first | omega | (refine ⟨?_, ?_⟩ <;> first | omega | assumption)) (by (try dsimp only); omega) _ _ _ hP hD hS (lv_sub hl [0, 2, 1, 5, 6, 7] rfl)
                · refine lv_iload hx hb dX8_halves_132 (lv_at hl 2 rfl) ?_
                  refine lv_goto (tgt := 139) hx hb dX8_halves_134 rfl ?_
                  refine lv_istore (lv' := [(4, .int (nI se)), (7, .int (nI q)), (6, .int iz), (5, .int (nI se)), (3, .int few), (0, .ref mo), (1, .int a), (2, .int what)]) hx hb dX8_halves_139 hl (Nat.le_of_ble_eq_true rfl) rfl (fun ls hl => ?_)
                  refine lv_iload hx hb dX8_halves_141 (lv_at hl 2 rfl) ?_
                  refine lv_if_eq (tgt := 155) hx hb dX8_halves_143 rfl (fun c_47 => ?_) (fun c_47 => ?_)
                  · refine lv_iload_n hx hb dX8_halves_155 rfl (lv_at hl 4 rfl) ?_
                    refine lv_istore_n (lv' := [(3, .int few), (4, .int (nI se)), (7, .int (nI q)), (6, .int iz), (5, .int (nI se)), (0, .ref mo), (1, .int a), (2, .int what)]) hx hb dX8_halves_156 rfl hl (Nat.le_of_ble_eq_true rfl) rfl (fun ls hl => ?_)
                    refine lv_iinc (v := nI (se + 1)) (lv' := [(5, .int (nI (se + 1))), (3, .int few), (4, .int (nI se)), (7, .int (nI q)), (6, .int iz), (0, .ref mo), (1, .int a), (2, .int what)]) hx hb dX8_halves_157 hl (k := 4) rfl (nI_add (se) 1) (Nat.le_of_ble_eq_true rfl) rfl (fun ls hl => ?_)
                    refine lv_goto (tgt := 41) hx hb dX8_halves_160 rfl ?_
                    exact ih41 (few, nI se, se + 1) (by (try dsimp only); first | omega | (refine ⟨?_, ?_⟩ <;> first | omega | assumption)) (by (try dsimp only); omega) _ _ _ hP hD hS (lv_sub hl [0, 2, 1, 5, 6, 7] rfl)
                  · refine lv_aload_n hx hb dX8_halves_146 rfl (lv_at hl 5 rfl) ?_
                    refine lv_iload hx hb dX8_halves_147 (lv_at hl 3 rfl) ?_
                    refine hs_ciM (va_runV (As := [.int (nI se)]) (rest := []) ⟨hx, hb, hml, hown, hts⟩ (gm_cutsOf l D k _ mo mo_st mo_at mo_isKept mo_pe mo_hm mo_draft mo_dp mo_dh mo_toldLines mo_highest mo_tape mo_tl mo_ps mo_fr mo_sort mo_value mo_ft mo_wrongAt mo_row mo_orderMany mo_fo mo_lightest mo_heaviest mo_before mo_justSum mo_toldSum mo_allWays mo_lanes mo_sizes mo_cells mo_torn mo_had u_11 c0 (nI se) (by first | exact e0a | exact e0) (by omega)) (cwV 1 hts gX8_halves_X8_cutsOf rfl rfl rfl ⟨rfl, hq_X8_cutsOf⟩ ⟨Nat.le_of_ble_eq_true rfl, Nat.le_of_ble_eq_true rfl⟩) (hs_preV hK hN (hs_subP (w := [_, _]) hP [0, 2] rfl) (hD.sub (ws' := [_, _]) [0, 2] (hs_upnd rfl) rfl) (ci := 7) (q0 := 0) rfl rfl) rfl rfl hl.1 rfl (lv_room (Nat.le_of_ble_eq_true rfl)) dX8_halves_149 ⟨Nat.le_of_ble_eq_true rfl, Nat.le_of_ble_eq_true rfl⟩) hP hD hS hA [false, true, false] [_] [_, _] rfl [0, 1] rfl [0, 1] (fun u_50 => [_, _]) (fun _ => rfl) (hs_upnd rfl) [false, true, false] (fun u_50 => [_, _, _]) (fun _ => rfl) (fun r_48 u_50 H locs hw_49 hP hD hS => ?_)
                    refine lv_goto (tgt := 156) hx hb dX8_halves_152 rfl ?_
                    refine lv_istore_n (lv' := [(3, .int r_48), (4, .int (nI se)), (7, .int (nI q)), (6, .int iz), (5, .int (nI se)), (0, .ref mo), (1, .int a), (2, .int what)]) hx hb dX8_halves_156 rfl hl (Nat.le_of_ble_eq_true rfl) rfl (fun ls hl => ?_)
                    refine lv_iinc (v := nI (se + 1)) (lv' := [(5, .int (nI (se + 1))), (3, .int r_48), (4, .int (nI se)), (7, .int (nI q)), (6, .int iz), (0, .ref mo), (1, .int a), (2, .int what)]) hx hb dX8_halves_157 hl (k := 4) rfl (nI_add (se) 1) (Nat.le_of_ble_eq_true rfl) rfl (fun ls hl => ?_)
                    refine lv_goto (tgt := 41) hx hb dX8_halves_160 rfl ?_
                    exact ih41 (r_48, nI se, se + 1) (by (try dsimp only); first | omega | (refine ⟨?_, ?_⟩ <;> first | omega | assumption)) (by (try dsimp only); omega) _ _ _ hP hD hS (lv_sub hl [0, 2, 1, 5, 6, 7] rfl)
              · have nc_41 : ¬ mo_pe ≤ q := fun hq9 => c_41 ((nI_leI (a := mo_pe) (b := q) (by omega) (by omega)).mpr hq9)
                refine lv_iload hx hb dX8_halves_79 (lv_at hl 1 rfl) ?_
                refine lv_if_eq (tgt := 118) hx hb dX8_halves_81 rfl (fun c_51 => ?_) (fun c_51 => ?_)
                · refine lv_iconst (v := 0) hx hb dX8_halves_118 hki_0 ?_
                  refine lv_istore (lv' := [(6, .int 0), (7, .int (nI q)), (5, .int (nI se)), (4, .int fo), (3, .int few), (0, .ref mo), (1, .int a), (2, .int what)]) hx hb dX8_halves_119 hl (Nat.le_of_ble_eq_true rfl) rfl (fun ls hl => ?_)
                  refine lv_iinc (v := nI (q + 1)) (lv' := [(7, .int (nI (q + 1))), (6, .int 0), (5, .int (nI se)), (4, .int fo), (3, .int few), (0, .ref mo), (1, .int a), (2, .int what)]) hx hb dX8_halves_121 hl (k := 1) rfl (nI_add (q) 1) (Nat.le_of_ble_eq_true rfl) rfl (fun ls hl => ?_)
                  refine lv_goto (tgt := 70) hx hb dX8_halves_124 rfl ?_
                  exact ih70 (0, q + 1) (by (try dsimp only); first | omega | (refine ⟨?_, ?_⟩ <;> first | omega | assumption)) (by (try dsimp only); omega) _ _ _ hP hD hS (lv_sub hl [0, 1, 2, 3, 4, 5, 6, 7] rfl)
                · refine lv_iload_n hx hb dX8_halves_84 rfl (lv_at hl 6 rfl) ?_
                  refine lv_iload hx hb dX8_halves_85 (lv_at hl 0 rfl) ?_
                  refine lv_ishr hx hb dX8_halves_87 ?_
                  refine lv_iconst (v := 1) hx hb dX8_halves_88 hki_1 ?_
                  refine lv_iand hx hb dX8_halves_89 ?_
                  refine lv_if_eq (tgt := 114) hx hb dX8_halves_90 rfl (fun c_52 => ?_) (fun c_52 => ?_)
                  · refine lv_iconst (v := 1) hx hb dX8_halves_114 hki_1 ?_
                    refine lv_goto (tgt := 119) hx hb dX8_halves_115 rfl ?_
                    refine lv_istore (lv' := [(6, .int 1), (7, .int (nI q)), (5, .int (nI se)), (4, .int fo), (3, .int few), (0, .ref mo), (1, .int a), (2, .int what)]) hx hb dX8_halves_119 hl (Nat.le_of_ble_eq_true rfl) rfl (fun ls hl => ?_)
                    refine lv_iinc (v := nI (q + 1)) (lv' := [(7, .int (nI (q + 1))), (6, .int 1), (5, .int (nI se)), (4, .int fo), (3, .int few), (0, .ref mo), (1, .int a), (2, .int what)]) hx hb dX8_halves_121 hl (k := 1) rfl (nI_add (q) 1) (Nat.le_of_ble_eq_true rfl) rfl (fun ls hl => ?_)
                    refine lv_goto (tgt := 70) hx hb dX8_halves_124 rfl ?_
                    exact ih70 (1, q + 1) (by (try dsimp only); first | omega | (refine ⟨?_, ?_⟩ <;> first | omega | assumption)) (by (try dsimp only); omega) _ _ _ hP hD hS (lv_sub hl [0, 1, 2, 3, 4, 5, 6, 7] rfl)
                  · refine lv_aload_n hx hb dX8_halves_93 rfl (lv_at hl 5 rfl) ?_
                    refine lv_iload hx hb dX8_halves_94 (lv_at hl 0 rfl) ?_
                    refine lv_iload hx hb dX8_halves_96 (lv_at hl 2 rfl) ?_
                    refine hs_ciM (va_runV (As := [.int (nI q), .int (nI se)]) (rest := []) ⟨hx, hb, hml, hown, hts⟩ (gm_moreLeft l D k _ mo mo_st mo_at mo_isKept mo_pe mo_hm mo_draft mo_dp mo_dh mo_toldLines mo_highest mo_tape mo_tl mo_ps mo_fr mo_sort mo_value mo_ft mo_wrongAt mo_row mo_orderMany mo_fo mo_lightest mo_heaviest mo_before mo_justSum mo_toldSum mo_allWays mo_lanes mo_sizes mo_cells mo_torn mo_had u_11 c0 q (nI se) (by first | exact e0a | exact e0) (by omega) (by omega)) (cwV 2 hts gX8_halves_X8_moreLeft rfl rfl rfl ⟨rfl, hq_X8_moreLeft⟩ ⟨Nat.le_of_ble_eq_true rfl, Nat.le_of_ble_eq_true rfl⟩) (hs_preV hK hN (hs_subP (w := [_, _]) hP [0, 2] rfl) (hD.sub (ws' := [_, _]) [0, 2] (hs_upnd rfl) rfl) (ci := 7) (q0 := 0) rfl rfl) rfl rfl hl.1 rfl (lv_room (Nat.le_of_ble_eq_true rfl)) dX8_halves_98 ⟨Nat.le_of_ble_eq_true rfl, Nat.le_of_ble_eq_true rfl⟩) hP hD hS hA [false, true, false] [_] [_, _] rfl [0, 1] rfl [0, 1] (fun u_55 => [_, _]) (fun _ => rfl) (hs_upnd rfl) [false, true, false] (fun u_55 => [_, _, _]) (fun _ => rfl) (fun r_53 u_55 H locs hw_54 hP hD hS => ?_)
                    refine hs_pi (va_runS (As := [.int r_53]) (rest := []) ⟨hx, hb, hml, hown, hts⟩ (gm_sizeOf l D k _ r_53) (va_cwS 1 hts gX8_halves_X8_sizeOf rfl rfl rfl hq_X8_sizeOf ⟨Nat.le_of_ble_eq_true rfl, Nat.le_of_ble_eq_true rfl⟩) (hs_preS hK hN (hs_subP (w := []) hP [] rfl) (hD.sub (ws' := []) [] rfl rfl)) rfl rfl hl.1 rfl (lv_room (Nat.le_of_ble_eq_true rfl)) dX8_halves_101 ⟨Nat.le_of_ble_eq_true rfl, Nat.le_of_ble_eq_true rfl⟩) hP hD hS hA (fun r_56 u_58 H locs hw_57 hP hS => ?_)
                    refine lv_aload_n hx hb dX8_halves_104 rfl (lv_at hl 5 rfl) ?_
                    refine va_get (D := D) (ci := 7) (v := .ref mo_at) (C := RX8) (T := TX8) (N := 32) hx hb hts hiX8 hown hK hP 0 rfl rfl 1 (Nat.le_of_ble_eq_true rfl) fl13 (fun _ h9 => h9) rfl dX8_halves_105 ?_
                    refine lv_bipush (v := 13) hx hb dX8_halves_108 hkb_13 ?_
                    refine va_iald hx hb hK hP 2 0 rfl rfl (hs_in (by decide)) dX8_halves_110 ?_
                    refine lv_icmp_gt (tgt := 118) hx hb dX8_halves_111 rfl (fun c_59 => ?_) (fun c_59 => ?_)
                    · refine lv_iconst (v := 0) hx hb dX8_halves_118 hki_0 ?_
                      refine lv_istore (lv' := [(6, .int 0), (7, .int (nI q)), (5, .int (nI se)), (4, .int fo), (3, .int few), (0, .ref mo), (1, .int a), (2, .int what)]) hx hb dX8_halves_119 hl (Nat.le_of_ble_eq_true rfl) rfl (fun ls hl => ?_)
                      refine lv_iinc (v := nI (q + 1)) (lv' := [(7, .int (nI (q + 1))), (6, .int 0), (5, .int (nI se)), (4, .int fo), (3, .int few), (0, .ref mo), (1, .int a), (2, .int what)]) hx hb dX8_halves_121 hl (k := 1) rfl (nI_add (q) 1) (Nat.le_of_ble_eq_true rfl) rfl (fun ls hl => ?_)
                      refine lv_goto (tgt := 70) hx hb dX8_halves_124 rfl ?_
                      exact ih70 (0, q + 1) (by (try dsimp only); first | omega | (refine ⟨?_, ?_⟩ <;> first | omega | assumption)) (by (try dsimp only); omega) _ _ _ hP hD hS (lv_sub hl [0, 1, 2, 3, 4, 5, 6, 7] rfl)
                    · refine lv_iconst (v := 1) hx hb dX8_halves_114 hki_1 ?_
                      refine lv_goto (tgt := 119) hx hb dX8_halves_115 rfl ?_
                      refine lv_istore (lv' := [(6, .int 1), (7, .int (nI q)), (5, .int (nI se)), (4, .int fo), (3, .int few), (0, .ref mo), (1, .int a), (2, .int what)]) hx hb dX8_halves_119 hl (Nat.le_of_ble_eq_true rfl) rfl (fun ls hl => ?_)
                      refine lv_iinc (v := nI (q + 1)) (lv' := [(7, .int (nI (q + 1))), (6, .int 1), (5, .int (nI se)), (4, .int fo), (3, .int few), (0, .ref mo), (1, .int a), (2, .int what)]) hx hb dX8_halves_121 hl (k := 1) rfl (nI_add (q) 1) (Nat.le_of_ble_eq_true rfl) rfl (fun ls hl => ?_)
                      refine lv_goto (tgt := 70) hx hb dX8_halves_124 rfl ?_
                      exact ih70 (1, q + 1) (by (try dsimp only); first | omega | (refine ⟨?_, ?_⟩ <;> first | omega | assumption)) (by (try dsimp only); omega) _ _ _ hP hD hS (lv_sub hl [0, 1, 2, 3, 4, 5, 6, 7] rfl)
            · (try dsimp only); first | omega | (refine ⟨?_, ?_⟩ <;> first | omega | assumption)
      · (try dsimp only); first | omega | (refine ⟨?_, ?_⟩ <;> first | omega | assumption)
    · refine lv_iconst (v := (-1)) hx hb dX8_halves_25 hki_m1 ?_
      exact hs_iret hx hb hr hlocks hK hP hD hS af [0, 1, 2] rfl (hs_upnd rfl) dX8_halves_26 (trivial)
