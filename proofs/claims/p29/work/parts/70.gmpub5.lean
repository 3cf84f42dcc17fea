set_option maxHeartbeats 4000000 in
set_option maxRecDepth 100000 in
theorem gq_stop (l : Launch) (D : va_G) (k : Nat → ClassId) (sz : Nat) (mo : Nat) (mo_st : Nat) (mo_at : Nat) (mo_isKept : Nat) (mo_pe : Nat) (mo_hm : Nat) (mo_draft : Nat) (mo_dp : Nat) (mo_dh : Nat) (mo_toldLines : Int32) (mo_highest : Int32) (mo_tape : Nat) (mo_tl : Nat) (mo_ps : Nat) (mo_fr : Nat) (mo_sort : Int32) (mo_value : Int32) (mo_ft : Nat) (mo_wrongAt : Int32) (mo_row : Nat) (mo_orderMany : Int32) (mo_fo : Nat) (mo_lightest : Int32) (mo_heaviest : Int32) (mo_before : Nat) (mo_justSum : Int64) (mo_toldSum : Int64) (mo_allWays : Int64) (mo_lanes : Nat) (mo_sizes : Nat) (mo_cells : Nat) (mo_torn : Int32) (mo_had : Nat) (sf : Nat → Int32) (c0 : Nat) (c3 : Nat) (c4 : Nat) (fi : Nat) (a : Int32) (what : Int32) (e0 : sf 0 = nI c0) (h0 : c0 ≤ 8) (h02 : 2 ≤ c0) (e3 : sf 16 = nI c3) (h3 : c3 ≤ 8) (e4 : sf 25 = nI c4) (h4 : c4 ≤ 6) (hpe : mo_pe ≤ 4) (hm2 : 2 ≤ mo_hm) (hm5 : mo_hm ≤ 5) (ef : sf 14 = nI fi) (hfi : fi ≤ 99) (hsaw : ∀ i, i < c4 → vp_in (sf (26 + 3 * i)) 4) : MI l yX8_stop wsX8_stop ({ frames := 2, cells := 0, slots := 0, locals := 45 }) D k [.ref mo, .int a, .int what] [oq7 mo mo_st mo_at mo_isKept (nI mo_pe) (nI mo_hm) mo_draft (nI mo_dp) (nI mo_dh) mo_toldLines mo_highest mo_tape (nI mo_tl) (nI mo_ps) (nI mo_fr) mo_sort mo_value (nI mo_ft) mo_wrongAt mo_row mo_orderMany (nI mo_fo) mo_lightest mo_heaviest mo_before mo_justSum mo_toldSum mo_allWays mo_lanes mo_sizes mo_cells mo_torn mo_had, oqI k mo_st 132 (sf)] sz (fun (r : Int32) (u : Unit) => True) (fun (u : Unit) => [oq7 mo mo_st mo_at mo_isKept (nI mo_pe) (nI mo_hm) mo_draft (nI mo_dp) (nI mo_dh) mo_toldLines mo_highest mo_tape (nI mo_tl) (nI mo_ps) (nI mo_fr) mo_sort mo_value (nI mo_ft) mo_wrongAt mo_row mo_orderMany (nI mo_fo) mo_lightest mo_heaviest mo_before mo_justSum mo_toldSum mo_allWays mo_lanes mo_sizes mo_cells mo_torn mo_had, oqI k mo_st 132 (sf)]) := by
  refine Met.ofW (cc := cX8_stop) (maxL := 7) (ret := (some .int)) hpn_X8 rfl ?_
  intro p e s m args below meth c s₁ B hml hv
  obtain ⟨rfl, hsz, hP, hK, hD0, hN⟩ := hv
  have hx := B.exec
  have hb := B.bytes
  have hr := B.returns
  have hlocks := B.notSynchronized
  have hts := atoms_spec (ws := wsX8_stop) B.pre
  have hown := findClass_of_methodNamed B.named
  have hown : s.vm.findClass RX8 = some m.cls := hown
  have hiX8 : ∀ w ∈ u_ws RX8 TX8 32, w ∈ wsX8_stop := fun w9 hw9 => List.mem_cons_of_mem _ (igX8 w9 hw9)
  have fl7 := hts (.fieldLink RX8 7 "HalfScalesModel" "st" "[I") (List.mem_cons_of_mem _ (hs_inG 4 80 rfl rfl))
  have kl199 := hts (.constantLong RX8 199 (99)) (List.mem_cons_of_mem _ (hs_inG 5 87 rfl rfl))
  subst hsz
  have hD := hD0.self (sz := s.heap.size)
  generalize hAe : va_A [oq7 mo mo_st mo_at mo_isKept (nI mo_pe) (nI mo_hm) mo_draft (nI mo_dp) (nI mo_dh) mo_toldLines mo_highest mo_tape (nI mo_tl) (nI mo_ps) (nI mo_fr) mo_sort mo_value (nI mo_ft) mo_wrongAt mo_row mo_orderMany (nI mo_fo) mo_lightest mo_heaviest mo_before mo_justSum mo_toldSum mo_allWays mo_lanes mo_sizes mo_cells mo_torn mo_had, oqI k mo_st 132 (sf)] s.heap.size = A at hD ⊢
  have hA : ∀ q : Nat, s.heap.size ≤ q → A q := fun q h => by rw [← hAe]; exact Or.inr h
  have hS : va_S A s.heap s.heap [] := va_S.rf
  have hl := lv_entry ([.ref mo, .int a, .int what]) (n := 7) (Nat.le_of_ble_eq_true rfl)
  rw [lg_entry_eq]
  generalize (lg_sl ([.ref mo, .int a, .int what]) ++ List.replicate (7 - (lg_sl ([.ref mo, .int a, .int what])).length) Slot.unset).toArray = ls at hl ⊢
  have hl : lv_has ls 7 [(0, .ref mo), (1, .int a), (2, .int what)] := hl
  have hP : va_P D vwCl [oq7 mo mo_st mo_at mo_isKept (nI mo_pe) (nI mo_hm) mo_draft (nI mo_dp) (nI mo_dh) mo_toldLines mo_highest mo_tape (nI mo_tl) (nI mo_ps) (nI mo_fr) mo_sort mo_value (nI mo_ft) mo_wrongAt mo_row mo_orderMany (nI mo_fo) mo_lightest mo_heaviest mo_before mo_justSum mo_toldSum mo_allWays mo_lanes mo_sizes mo_cells mo_torn mo_had, oqI k mo_st 132 (sf)] s.heap := hP
  refine lv_iload_n hx hb dX8_stop_0 rfl (lv_at hl 1 rfl) ?_
  refine lv_i2l hx hb dX8_stop_1 rfl ?_
  refine lv_lconst (v := 0) hx hb dX8_stop_2 (by decide) ?_
  refine lv_ldc2 hx hb hown kl199 dX8_stop_3 ?_
  refine hs_pi (va_runS (As := [.long (((a) : Int32).toInt64), .long 0, .long 99]) (rest := []) ⟨hx, hb, hml, hown, hts⟩ (gm_in l D k _ a 0 99) (va_cwS 3 hts gX8_stop_X8_in rfl rfl rfl hq_X8_in ⟨Nat.le_of_ble_eq_true rfl, Nat.le_of_ble_eq_true rfl⟩) (hs_preS hK hN (hs_subP (w := []) hP [] rfl) (hD.sub (ws' := []) [] rfl rfl)) rfl rfl hl.1 rfl (lv_room (Nat.le_of_ble_eq_true rfl)) dX8_stop_6 ⟨Nat.le_of_ble_eq_true rfl, Nat.le_of_ble_eq_true rfl⟩) hP hD hS hA (fun r_1 u_3 H locs hw_2 hP hS => ?_)
  refine hs_topi (hsb (hsin a 0 99)) hw_2 ?_
  refine lv_if_eq (tgt := 19) hx hb dX8_stop_9 rfl (fun c_4 => ?_) (fun c_4 => ?_)
  · refine lv_iconst (v := (-1)) hx hb dX8_stop_19 hki_m1 ?_
    exact hs_iret hx hb hr hlocks hK hP hD hS () [0, 1] rfl (hs_upnd rfl) dX8_stop_20 (trivial)
  · refine lv_iload_n hx hb dX8_stop_12 rfl (lv_at hl 2 rfl) ?_
    refine hs_pi (va_runS (As := [.int what]) (rest := []) ⟨hx, hb, hml, hown, hts⟩ (gm_isPart l D k _ what) (va_cwS 1 hts gX8_stop_X8_isPart rfl rfl rfl hq_X8_isPart ⟨Nat.le_of_ble_eq_true rfl, Nat.le_of_ble_eq_true rfl⟩) (hs_preS hK hN (hs_subP (w := []) hP [] rfl) (hD.sub (ws' := []) [] rfl rfl)) rfl rfl hl.1 rfl (lv_room (Nat.le_of_ble_eq_true rfl)) dX8_stop_13 ⟨Nat.le_of_ble_eq_true rfl, Nat.le_of_ble_eq_true rfl⟩) hP hD hS hA (fun r_5 u_7 H locs hw_6 hP hS => ?_)
    refine hs_topi (hsb (hsin what 0 1)) hw_6 ?_
    refine lv_if_ne (tgt := 21) hx hb dX8_stop_16 rfl (fun c_8 => ?_) (fun c_8 => ?_)
    · refine lv_aload_n hx hb dX8_stop_21 rfl (lv_at hl 0 rfl) ?_
      refine va_get (D := D) (ci := 7) (v := .ref mo_st) (C := RX8) (T := TX8) (N := 32) hx hb hts hiX8 hown hK hP 0 rfl rfl 0 (Nat.le_of_ble_eq_true rfl) fl7 (fun _ h9 => h9) rfl dX8_stop_22 ?_
      refine lv_bipush (v := 14) hx hb dX8_stop_25 hkb_14 ?_
      refine va_iald hx hb hK hP 1 0 rfl rfl (hs_in (by decide)) dX8_stop_27 ?_
      refine hs_topi (nI fi) ef ?_
      refine lv_istore_n (lv' := [(3, .int (nI fi)), (0, .ref mo), (1, .int a), (2, .int what)]) hx hb dX8_stop_28 rfl hl (Nat.le_of_ble_eq_true rfl) rfl (fun ls hl => ?_)
      refine lv_iload_n hx hb dX8_stop_29 rfl (lv_at hl 0 rfl) ?_
      refine lv_istore (lv' := [(4, .int (nI fi)), (3, .int (nI fi)), (0, .ref mo), (1, .int a), (2, .int what)]) hx hb dX8_stop_30 hl (Nat.le_of_ble_eq_true rfl) rfl (fun ls hl => ?_)
      refine lv_iconst (v := 0) hx hb dX8_stop_32 hki_0 ?_
      refine lv_istore (lv' := [(5, .int 0), (4, .int (nI fi)), (3, .int (nI fi)), (0, .ref mo), (1, .int a), (2, .int what)]) hx hb dX8_stop_33 hl (Nat.le_of_ble_eq_true rfl) rfl (fun ls hl => ?_)
      refine lv_iconst (v := 1) hx hb dX8_stop_35 hki_1 ?_
      refine lv_istore (lv' := [(6, .int 1), (5, .int 0), (4, .int (nI fi)), (3, .int (nI fi)), (0, .ref mo), (1, .int a), (2, .int what)]) hx hb dX8_stop_36 hl (Nat.le_of_ble_eq_true rfl) rfl (fun ls hl => ?_)
      refine hs_while (σ := Nat × Int32 × Int32 × Nat) (fun x => x.1 ≤ 99) (fun x => x.1) (fun x => [oq7 mo mo_st mo_at mo_isKept (nI mo_pe) (nI mo_hm) mo_draft (nI mo_dp) (nI mo_dh) mo_toldLines mo_highest mo_tape (nI mo_tl) (nI mo_ps) (nI mo_fr) mo_sort mo_value (nI mo_ft) mo_wrongAt mo_row mo_orderMany (nI mo_fo) mo_lightest mo_heaviest mo_before mo_justSum mo_toldSum mo_allWays mo_lanes mo_sizes mo_cells mo_torn mo_had, oqI k mo_st 132 (sf)]) (fun x => [(6, .int (nI (x.2.2.2))), (5, .int (x.2.2.1)), (4, .int (x.2.1)), (3, .int (nI (x.1))), (0, .ref mo), (1, .int a), (2, .int what)]) ?_ (fi, nI fi, 0, 1) ?_ hP hD hS hl
      · intro x hI ih38 H locs ls hP hD hS hl
        obtain ⟨fx, least, fo, n6⟩ := x
        try dsimp only at hI
        have hP : va_P D vwCl [oq7 mo mo_st mo_at mo_isKept (nI mo_pe) (nI mo_hm) mo_draft (nI mo_dp) (nI mo_dh) mo_toldLines mo_highest mo_tape (nI mo_tl) (nI mo_ps) (nI mo_fr) mo_sort mo_value (nI mo_ft) mo_wrongAt mo_row mo_orderMany (nI mo_fo) mo_lightest mo_heaviest mo_before mo_justSum mo_toldSum mo_allWays mo_lanes mo_sizes mo_cells mo_torn mo_had, oqI k mo_st 132 (sf)] H := hP
        have hD : va_D A [oq7 mo mo_st mo_at mo_isKept (nI mo_pe) (nI mo_hm) mo_draft (nI mo_dp) (nI mo_dh) mo_toldLines mo_highest mo_tape (nI mo_tl) (nI mo_ps) (nI mo_fr) mo_sort mo_value (nI mo_ft) mo_wrongAt mo_row mo_orderMany (nI mo_fo) mo_lightest mo_heaviest mo_before mo_justSum mo_toldSum mo_allWays mo_lanes mo_sizes mo_cells mo_torn mo_had, oqI k mo_st 132 (sf)] := hD
        have hl : lv_has ls 7 [(6, .int (nI n6)), (5, .int fo), (4, .int least), (3, .int (nI fx)), (0, .ref mo), (1, .int a), (2, .int what)] := hl
        refine lv_iload_n hx hb dX8_stop_38 rfl (lv_at hl 3 rfl) ?_
        refine lv_iconst (v := 1) hx hb dX8_stop_39 hki_1 ?_
        refine lv_icmp_le (tgt := 99) hx hb dX8_stop_40 rfl (fun c_9 => ?_) (fun c_9 => ?_)
        · have nc_9 : fx ≤ 1 := (nI_leI (a := fx) (b := 1) (by omega) (by omega)).mp c_9
          refine lv_iload_n hx hb dX8_stop_99 rfl (lv_at hl 6 rfl) ?_
          refine lv_if_ne (tgt := 108) hx hb dX8_stop_100 rfl (fun c_10 => ?_) (fun c_10 => ?_)
          · refine lv_iload hx hb dX8_stop_108 (lv_at hl 2 rfl) ?_
            exact hs_iret hx hb hr hlocks hK hP hD hS () [0, 1] rfl (hs_upnd rfl) dX8_stop_110 (trivial)
          · refine lv_iload hx hb dX8_stop_103 (lv_at hl 1 rfl) ?_
            refine lv_goto (tgt := 110) hx hb dX8_stop_105 rfl ?_
            exact hs_iret hx hb hr hlocks hK hP hD hS () [0, 1] rfl (hs_upnd rfl) dX8_stop_110 (trivial)
        · have nc_9 : ¬ fx ≤ 1 := fun hq9 => c_9 ((nI_leI (a := fx) (b := 1) (by omega) (by omega)).mpr hq9)
          refine lv_iload_n hx hb dX8_stop_43 rfl (lv_at hl 3 rfl) ?_
          refine lv_iload_n hx hb dX8_stop_44 rfl (lv_at hl 3 rfl) ?_
          refine lv_iconst (v := 2) hx hb dX8_stop_45 hki_2 ?_
          refine lv_idiv hx hb dX8_stop_46 (by decide) ?_
          refine hs_topi (nI (fx / 2)) (show nI fx / 2 = nI (fx / 2) from pk_div (d := 2) (by omega) (by decide) (by decide)) ?_
          refine lv_isub hx hb dX8_stop_47 ?_
          refine hs_topi (nI (fx - (fx / 2))) (pk_sub (a := fx) (b := (fx / 2)) (by omega)) ?_
          refine lv_istore_n (lv' := [(3, .int (nI (fx - (fx / 2)))), (6, .int (nI n6)), (5, .int fo), (4, .int least), (0, .ref mo), (1, .int a), (2, .int what)]) hx hb dX8_stop_48 rfl hl (Nat.le_of_ble_eq_true rfl) rfl (fun ls hl => ?_)
          refine lv_iload_n hx hb dX8_stop_49 rfl (lv_at hl 0 rfl) ?_
          refine lv_iload hx hb dX8_stop_50 (lv_at hl 1 rfl) ?_
          refine lv_iload_n hx hb dX8_stop_52 rfl (lv_at hl 5 rfl) ?_
          refine lv_imul hx hb dX8_stop_53 ?_
          refine lv_iadd hx hb dX8_stop_54 ?_
          refine lv_iload hx hb dX8_stop_55 (lv_at hl 3 rfl) ?_
          refine lv_icmp_ge (tgt := 65) hx hb dX8_stop_57 rfl (fun c_11 => ?_) (fun c_11 => ?_)
          · refine lv_iload hx hb dX8_stop_65 (lv_at hl 2 rfl) ?_
            refine lv_istore (lv' := [(5, .int fo), (3, .int (nI (fx - (fx / 2)))), (6, .int (nI n6)), (4, .int least), (0, .ref mo), (1, .int a), (2, .int what)]) hx hb dX8_stop_67 hl (Nat.le_of_ble_eq_true rfl) rfl (fun ls hl => ?_)
            refine lv_iload_n hx hb dX8_stop_69 rfl (lv_at hl 1 rfl) ?_
            refine lv_iload hx hb dX8_stop_70 (lv_at hl 2 rfl) ?_
            refine lv_iload_n hx hb dX8_stop_72 rfl (lv_at hl 5 rfl) ?_
            refine lv_imul hx hb dX8_stop_73 ?_
            refine lv_iadd hx hb dX8_stop_74 ?_
            refine lv_iload hx hb dX8_stop_75 (lv_at hl 3 rfl) ?_
            refine lv_icmp_ge (tgt := 89) hx hb dX8_stop_77 rfl (fun c_12 => ?_) (fun c_12 => ?_)
            · refine lv_iload hx hb dX8_stop_89 (lv_at hl 3 rfl) ?_
              refine lv_istore (lv' := [(4, .int least), (5, .int fo), (3, .int (nI (fx - (fx / 2)))), (6, .int (nI n6)), (0, .ref mo), (1, .int a), (2, .int what)]) hx hb dX8_stop_91 hl (Nat.le_of_ble_eq_true rfl) rfl (fun ls hl => ?_)
              refine lv_iinc (v := nI (n6 + 1)) (lv' := [(6, .int (nI (n6 + 1))), (4, .int least), (5, .int fo), (3, .int (nI (fx - (fx / 2)))), (0, .ref mo), (1, .int a), (2, .int what)]) hx hb dX8_stop_93 hl (k := 3) rfl (nI_add (n6) 1) (Nat.le_of_ble_eq_true rfl) rfl (fun ls hl => ?_)
              refine lv_goto (tgt := 38) hx hb dX8_stop_96 rfl ?_
              exact ih38 (fx - (fx / 2), least, fo, n6 + 1) (by (try dsimp only); first | omega | (refine ⟨?_, ?_⟩ <;> first | omega | assumption)) (by (try dsimp only); omega) _ _ _ hP hD hS (lv_sub hl [0, 2, 1, 3, 4, 5, 6] rfl)
            · refine lv_iload_n hx hb dX8_stop_80 rfl (lv_at hl 1 rfl) ?_
              refine lv_iload hx hb dX8_stop_81 (lv_at hl 2 rfl) ?_
              refine lv_iload_n hx hb dX8_stop_83 rfl (lv_at hl 5 rfl) ?_
              refine lv_imul hx hb dX8_stop_84 ?_
              refine lv_iadd hx hb dX8_stop_85 ?_
              refine lv_goto (tgt := 91) hx hb dX8_stop_86 rfl ?_
              refine lv_istore (lv' := [(4, .int ((nI (fx - (fx / 2))) + ((nI n6) * a))), (5, .int fo), (3, .int (nI (fx - (fx / 2)))), (6, .int (nI n6)), (0, .ref mo), (1, .int a), (2, .int what)]) hx hb dX8_stop_91 hl (Nat.le_of_ble_eq_true rfl) rfl (fun ls hl => ?_)
              refine lv_iinc (v := nI (n6 + 1)) (lv' := [(6, .int (nI (n6 + 1))), (4, .int ((nI (fx - (fx / 2))) + ((nI n6) * a))), (5, .int fo), (3, .int (nI (fx - (fx / 2)))), (0, .ref mo), (1, .int a), (2, .int what)]) hx hb dX8_stop_93 hl (k := 3) rfl (nI_add (n6) 1) (Nat.le_of_ble_eq_true rfl) rfl (fun ls hl => ?_)
              refine lv_goto (tgt := 38) hx hb dX8_stop_96 rfl ?_
              exact ih38 (fx - (fx / 2), (nI (fx - (fx / 2))) + ((nI n6) * a), fo, n6 + 1) (by (try dsimp only); first | omega | (refine ⟨?_, ?_⟩ <;> first | omega | assumption)) (by (try dsimp only); omega) _ _ _ hP hD hS (lv_sub hl [0, 2, 1, 3, 4, 5, 6] rfl)
          · refine lv_iload hx hb dX8_stop_60 (lv_at hl 1 rfl) ?_
            refine lv_goto (tgt := 67) hx hb dX8_stop_62 rfl ?_
            refine lv_istore (lv' := [(5, .int (nI n6)), (3, .int (nI (fx - (fx / 2)))), (6, .int (nI n6)), (4, .int least), (0, .ref mo), (1, .int a), (2, .int what)]) hx hb dX8_stop_67 hl (Nat.le_of_ble_eq_true rfl) rfl (fun ls hl => ?_)
            refine lv_iload_n hx hb dX8_stop_69 rfl (lv_at hl 1 rfl) ?_
            refine lv_iload hx hb dX8_stop_70 (lv_at hl 2 rfl) ?_
            refine lv_iload_n hx hb dX8_stop_72 rfl (lv_at hl 5 rfl) ?_
            refine lv_imul hx hb dX8_stop_73 ?_
            refine lv_iadd hx hb dX8_stop_74 ?_
            refine lv_iload hx hb dX8_stop_75 (lv_at hl 3 rfl) ?_
            refine lv_icmp_ge (tgt := 89) hx hb dX8_stop_77 rfl (fun c_13 => ?_) (fun c_13 => ?_)
            · refine lv_iload hx hb dX8_stop_89 (lv_at hl 3 rfl) ?_
              refine lv_istore (lv' := [(4, .int least), (5, .int (nI n6)), (3, .int (nI (fx - (fx / 2)))), (6, .int (nI n6)), (0, .ref mo), (1, .int a), (2, .int what)]) hx hb dX8_stop_91 hl (Nat.le_of_ble_eq_true rfl) rfl (fun ls hl => ?_)
              refine lv_iinc (v := nI (n6 + 1)) (lv' := [(6, .int (nI (n6 + 1))), (4, .int least), (5, .int (nI n6)), (3, .int (nI (fx - (fx / 2)))), (0, .ref mo), (1, .int a), (2, .int what)]) hx hb dX8_stop_93 hl (k := 3) rfl (nI_add (n6) 1) (Nat.le_of_ble_eq_true rfl) rfl (fun ls hl => ?_)
              refine lv_goto (tgt := 38) hx hb dX8_stop_96 rfl ?_
              exact ih38 (fx - (fx / 2), least, nI n6, n6 + 1) (by (try dsimp only); first | omega | (refine ⟨?_, ?_⟩ <;> first | omega | assumption)) (by (try dsimp only); omega) _ _ _ hP hD hS (lv_sub hl [0, 2, 1, 3, 4, 5, 6] rfl)
            · refine lv_iload_n hx hb dX8_stop_80 rfl (lv_at hl 1 rfl) ?_
              refine lv_iload hx hb dX8_stop_81 (lv_at hl 2 rfl) ?_
              refine lv_iload_n hx hb dX8_stop_83 rfl (lv_at hl 5 rfl) ?_
              refine lv_imul hx hb dX8_stop_84 ?_
              refine lv_iadd hx hb dX8_stop_85 ?_
              refine lv_goto (tgt := 91) hx hb dX8_stop_86 rfl ?_
              refine lv_istore (lv' := [(4, .int ((nI (fx - (fx / 2))) + ((nI n6) * a))), (5, .int (nI n6)), (3, .int (nI (fx - (fx / 2)))), (6, .int (nI n6)), (0, .ref mo), (1, .int a), (2, .int what)]) hx hb dX8_stop_91 hl (Nat.le_of_ble_eq_true rfl) rfl (fun ls hl => ?_)
              refine lv_iinc (v := nI (n6 + 1)) (lv' := [(6, .int (nI (n6 + 1))), (4, .int ((nI (fx - (fx / 2))) + ((nI n6) * a))), (5, .int (nI n6)), (3, .int (nI (fx - (fx / 2)))), (0, .ref mo), (1, .int a), (2, .int what)]) hx hb dX8_stop_93 hl (k := 3) rfl (nI_add (n6) 1) (Nat.le_of_ble_eq_true rfl) rfl (fun ls hl => ?_)
              refine lv_goto (tgt := 38) hx hb dX8_stop_96 rfl ?_
              exact ih38 (fx - (fx / 2), (nI (fx - (fx / 2))) + ((nI n6) * a), nI n6, n6 + 1) (by (try dsimp only); first | omega | (refine ⟨?_, ?_⟩ <;> first | omega | assumption)) (by (try dsimp only); omega) _ _ _ hP hD hS (lv_sub hl [0, 2, 1, 3, 4, 5, 6] rfl)
      · (try dsimp only); first | omega | (refine ⟨?_, ?_⟩ <;> first | omega | assumption)
    · refine lv_iconst (v := (-1)) hx hb dX8_stop_19 hki_m1 ?_
      exact hs_iret hx hb hr hlocks hK hP hD hS () [0, 1] rfl (hs_upnd rfl) dX8_stop_20 (trivial)

set_option maxHeartbeats 4000000 in
set_option maxRecDepth 100000 in
theorem gq_orders (l : Launch) (D : va_G) (k : Nat → ClassId) (sz : Nat) (mo : Nat) (mo_st : Nat) (mo_at : Nat) (mo_isKept : Nat) (mo_pe : Nat) (mo_hm : Nat) (mo_draft : Nat) (mo_dp : Nat) (mo_dh : Nat) (mo_toldLines : Int32) (mo_highest : Int32) (mo_tape : Nat) (mo_tl : Nat) (mo_ps : Nat) (mo_fr : Nat) (mo_sort : Int32) (mo_value : Int32) (mo_ft : Nat) (mo_wrongAt : Int32) (mo_row : Nat) (mo_orderMany : Int32) (mo_fo : Nat) (mo_lightest : Int32) (mo_heaviest : Int32) (mo_before : Nat) (mo_justSum : Int64) (mo_toldSum : Int64) (mo_allWays : Int64) (mo_lanes : Nat) (mo_sizes : Nat) (mo_cells : Nat) (mo_torn : Int32) (mo_had : Nat) (sf : Nat → Int32) (c0 : Nat) (c3 : Nat) (c4 : Nat) (fi : Nat) (af : Nat → Int32) (rf : Nat → Int32) (bf : Nat → Int32) (what : Int32) (e0 : sf 0 = nI c0) (h0 : c0 ≤ 8) (h02 : 2 ≤ c0) (e3 : sf 16 = nI c3) (h3 : c3 ≤ 8) (e4 : sf 25 = nI c4) (h4 : c4 ≤ 6) (hpe : mo_pe ≤ 4) (hm2 : 2 ≤ mo_hm) (hm5 : mo_hm ≤ 5) (ef : sf 14 = nI fi) (hfi : fi ≤ 99) (hsaw : ∀ i, i < c4 → vp_in (sf (26 + 3 * i)) 4) : MI l yX8_orders wsX8_orders ({ frames := 3, cells := 0, slots := 0, locals := 71 }) D k [.ref mo, .int what] [oq7 mo mo_st mo_at mo_isKept (nI mo_pe) (nI mo_hm) mo_draft (nI mo_dp) (nI mo_dh) mo_toldLines mo_highest mo_tape (nI mo_tl) (nI mo_ps) (nI mo_fr) mo_sort mo_value (nI mo_ft) mo_wrongAt mo_row mo_orderMany (nI mo_fo) mo_lightest mo_heaviest mo_before mo_justSum mo_toldSum mo_allWays mo_lanes mo_sizes mo_cells mo_torn mo_had, oqI k mo_st 132 (sf), oqI k mo_at 44 (af), oqI k mo_row 5 (rf), oqI k mo_before 25 (bf)] sz (fun (r : Int32) (u : (Nat → Int32) × (Int32 × Nat × Int32 × Int32) × (Nat → Int32) × (Nat → Int32)) => True) (fun (u : (Nat → Int32) × (Int32 × Nat × Int32 × Int32) × (Nat → Int32) × (Nat → Int32)) => [oq7 mo mo_st mo_at mo_isKept (nI mo_pe) (nI mo_hm) mo_draft (nI mo_dp) (nI mo_dh) mo_toldLines mo_highest mo_tape (nI mo_tl) (nI mo_ps) (nI mo_fr) mo_sort mo_value (nI mo_ft) mo_wrongAt mo_row u.2.1.1 (nI (u.2.1.2.1)) u.2.1.2.2.1 u.2.1.2.2.2 mo_before mo_justSum mo_toldSum mo_allWays mo_lanes mo_sizes mo_cells mo_torn mo_had, oqI k mo_st 132 (sf), oqI k mo_at 44 (u.1), oqI k mo_row 5 (u.2.2.1), oqI k mo_before 25 (u.2.2.2)]) := by
  refine Met.ofW (cc := cX8_orders) (maxL := 2) (ret := (some .int)) hpn_X8 rfl ?_
  intro p e s m args below meth c s₁ B hml hv
  obtain ⟨rfl, hsz, hP, hK, hD0, hN⟩ := hv
  have hx := B.exec
  have hb := B.bytes
  have hr := B.returns
  have hlocks := B.notSynchronized
  have hts := atoms_spec (ws := wsX8_orders) B.pre
  have hown := findClass_of_methodNamed B.named
  have hown : s.vm.findClass RX8 = some m.cls := hown
  have hiX8 : ∀ w ∈ u_ws RX8 TX8 32, w ∈ wsX8_orders := fun w9 hw9 => List.mem_cons_of_mem _ (igX8 w9 hw9)
  have fl66 := hts (.fieldLink RX8 66 "HalfScalesModel" "halfMany" "I") (List.mem_cons_of_mem _ (hs_inG 4 84 rfl rfl))
  have fl204 := hts (.fieldLink RX8 204 "HalfScalesModel" "firstOrder" "I") (List.mem_cons_of_mem _ (hs_inG 4 100 rfl rfl))
  have fl149 := hts (.fieldLink RX8 149 "HalfScalesModel" "orderMany" "I") (List.mem_cons_of_mem _ (hs_inG 4 99 rfl rfl))
  have fl207 := hts (.fieldLink RX8 207 "HalfScalesModel" "lightest" "I") (List.mem_cons_of_mem _ (hs_inG 4 101 rfl rfl))
  have fl210 := hts (.fieldLink RX8 210 "HalfScalesModel" "heaviest" "I") (List.mem_cons_of_mem _ (hs_inG 4 102 rfl rfl))
  have fl26 := hts (.fieldLink RX8 26 "HalfScalesModel" "row" "[I") (List.mem_cons_of_mem _ (hs_inG 4 98 rfl rfl))
  have kl197 := hts (.constantLong RX8 197 (2)) (List.mem_cons_of_mem _ (hs_inG 5 86 rfl rfl))
  subst hsz
  have hD := hD0.self (sz := s.heap.size)
  generalize hAe : va_A [oq7 mo mo_st mo_at mo_isKept (nI mo_pe) (nI mo_hm) mo_draft (nI mo_dp) (nI mo_dh) mo_toldLines mo_highest mo_tape (nI mo_tl) (nI mo_ps) (nI mo_fr) mo_sort mo_value (nI mo_ft) mo_wrongAt mo_row mo_orderMany (nI mo_fo) mo_lightest mo_heaviest mo_before mo_justSum mo_toldSum mo_allWays mo_lanes mo_sizes mo_cells mo_torn mo_had, oqI k mo_st 132 (sf), oqI k mo_at 44 (af), oqI k mo_row 5 (rf), oqI k mo_before 25 (bf)] s.heap.size = A at hD ⊢
  have hA : ∀ q : Nat, s.heap.size ≤ q → A q := fun q h => by rw [← hAe]; exact Or.inr h
  have hS : va_S A s.heap s.heap [] := va_S.rf
  have hl := lv_entry ([.ref mo, .int what]) (n := 2) (Nat.le_of_ble_eq_true rfl)
  rw [lg_entry_eq]
  generalize (lg_sl ([.ref mo, .int what]) ++ List.replicate (2 - (lg_sl ([.ref mo, .int what])).length) Slot.unset).toArray = ls at hl ⊢
  have hl : lv_has ls 2 [(0, .ref mo), (1, .int what)] := hl
  have hP : va_P D vwCl [oq7 mo mo_st mo_at mo_isKept (nI mo_pe) (nI mo_hm) mo_draft (nI mo_dp) (nI mo_dh) mo_toldLines mo_highest mo_tape (nI mo_tl) (nI mo_ps) (nI mo_fr) mo_sort mo_value (nI mo_ft) mo_wrongAt mo_row mo_orderMany (nI mo_fo) mo_lightest mo_heaviest mo_before mo_justSum mo_toldSum mo_allWays mo_lanes mo_sizes mo_cells mo_torn mo_had, oqI k mo_st 132 (sf), oqI k mo_at 44 (af), oqI k mo_row 5 (rf), oqI k mo_before 25 (bf)] s.heap := hP
  refine lv_iload_n hx hb dX8_orders_0 rfl (lv_at hl 1 rfl) ?_
  refine lv_i2l hx hb dX8_orders_1 rfl ?_
  refine lv_lconst (v := 0) hx hb dX8_orders_2 (by decide) ?_
  refine lv_ldc2 hx hb hown kl197 dX8_orders_3 ?_
  refine hs_pi (va_runS (As := [.long (((what) : Int32).toInt64), .long 0, .long 2]) (rest := []) ⟨hx, hb, hml, hown, hts⟩ (gm_in l D k _ what 0 2) (va_cwS 3 hts gX8_orders_X8_in rfl rfl rfl hq_X8_in ⟨Nat.le_of_ble_eq_true rfl, Nat.le_of_ble_eq_true rfl⟩) (hs_preS hK hN (hs_subP (w := []) hP [] rfl) (hD.sub (ws' := []) [] rfl rfl)) rfl rfl hl.1 rfl (lv_room (Nat.le_of_ble_eq_true rfl)) dX8_orders_6 ⟨Nat.le_of_ble_eq_true rfl, Nat.le_of_ble_eq_true rfl⟩) hP hD hS hA (fun r_1 u_3 H locs hw_2 hP hS => ?_)
  refine hs_topi (hsb (hsin what 0 2)) hw_2 ?_
  refine lv_if_ne (tgt := 33) hx hb dX8_orders_9 rfl (fun c_4 => ?_) (fun c_4 => ?_)
  · rcases hs_v012 (hs_nb c_4) with rfl | rfl | rfl
    · refine lv_aload_n hx hb dX8_orders_33 rfl (lv_at hl 0 rfl) ?_
      refine hs_cvM (va_runV (As := []) (rest := []) ⟨hx, hb, hml, hown, hts⟩ (gm_starts l D k _ mo mo_st mo_at mo_isKept mo_pe mo_hm mo_draft mo_dp mo_dh mo_toldLines mo_highest mo_tape mo_tl mo_ps mo_fr mo_sort mo_value mo_ft mo_wrongAt mo_row mo_orderMany mo_fo mo_lightest mo_heaviest mo_before mo_justSum mo_toldSum mo_allWays mo_lanes mo_sizes mo_cells mo_torn mo_had sf af) (cwV 0 hts gX8_orders_X8_starts rfl rfl rfl ⟨rfl, hq_X8_starts⟩ ⟨Nat.le_of_ble_eq_true rfl, Nat.le_of_ble_eq_true rfl⟩) (hs_preV hK hN (hs_subP (w := [_, _, _]) hP [0, 1, 2] rfl) (hD.sub (ws' := [_, _, _]) [0, 1, 2] (hs_upnd rfl) rfl) (ci := 7) (q0 := 0) rfl rfl) rfl rfl hl.1 rfl (lv_room (Nat.le_of_ble_eq_true rfl)) dX8_orders_34 ⟨Nat.le_of_ble_eq_true rfl, Nat.le_of_ble_eq_true rfl⟩) hP hD hS hA [false, false, false, true, true] [_, _] [_, _, _] rfl [0, 1, 2] rfl [0, 1, 2] (fun u_7 => [_, _, _]) (fun _ => rfl) (hs_upnd rfl) [false, false, false, true, true] (fun u_7 => [_, _, _, _, _]) (fun _ => rfl) (fun u_7 H locs hw_6 hP hD hS => ?_)
      have hw_6 : ∀ j, j < 44 → u_7 j = sf j := hw_6
      have e0a : u_7 0 = nI c0 := (hw_6 0 (by decide)).trans e0
      have e3a : u_7 16 = nI c3 := (hw_6 16 (by decide)).trans e3
      have e4a : u_7 25 = nI c4 := (hw_6 25 (by decide)).trans e4
      have hw_6 : ∀ j, j < 44 → u_7 j = sf j := hw_6
      refine lv_aload_n hx hb dX8_orders_37 rfl (lv_at hl 0 rfl) ?_
      refine lv_aload_n hx hb dX8_orders_38 rfl (lv_at hl 0 rfl) ?_
      refine va_get (D := D) (ci := 7) (v := .int (nI mo_hm)) (C := RX8) (T := TX8) (N := 32) hx hb hts hiX8 hown hK hP 0 rfl rfl 4 (Nat.le_of_ble_eq_true rfl) fl66 (fun _ h9 => h9) rfl dX8_orders_39 ?_
      refine hs_cvM (va_runV (As := [.int (nI mo_hm)]) (rest := []) ⟨hx, hb, hml, hown, hts⟩ (gm_findOrders l D k _ mo mo_st mo_at mo_isKept mo_pe mo_hm mo_draft mo_dp mo_dh mo_toldLines mo_highest mo_tape mo_tl mo_ps mo_fr mo_sort mo_value mo_ft mo_wrongAt mo_row mo_orderMany mo_fo mo_lightest mo_heaviest mo_before mo_justSum mo_toldSum mo_allWays mo_lanes mo_sizes mo_cells mo_torn mo_had u_7 rf bf c3 mo_hm (by first | exact e3a | exact e3) (by omega) (by omega) (by omega)) (cwV 1 hts gX8_orders_X8_findOrders rfl rfl rfl ⟨rfl, hq_X8_findOrders⟩ ⟨Nat.le_of_ble_eq_true rfl, Nat.le_of_ble_eq_true rfl⟩) (hs_preV hK hN (hs_subP (w := [_, _, _, _]) hP [0, 2, 3, 4] rfl) (hD.sub (ws' := [_, _, _, _]) [0, 2, 3, 4] (hs_upnd rfl) rfl) (ci := 7) (q0 := 0) rfl rfl) rfl rfl hl.1 rfl (lv_room (Nat.le_of_ble_eq_true rfl)) dX8_orders_42 ⟨Nat.le_of_ble_eq_true rfl, Nat.le_of_ble_eq_true rfl⟩) hP hD hS hA [false, true, false, false, false] [_] [_, _, _, _] rfl [0, 1, 2, 3] rfl [0, 1, 2, 3] (fun u_10 => [_, _, _, _]) (fun _ => rfl) (hs_upnd rfl) [false, true, false, false, false] (fun u_10 => [_, _, _, _, _]) (fun _ => rfl) (fun u_10 H locs hw_9 hP hD hS => ?_)
      have hw_9 : u_10.1.2.1 ≤ 3125 := hw_9
      refine lv_aload_n hx hb dX8_orders_45 rfl (lv_at hl 0 rfl) ?_
      refine lv_aload_n hx hb dX8_orders_46 rfl (lv_at hl 0 rfl) ?_
      refine va_get (D := D) (ci := 7) (v := .int (nI (u_10.1.2.1))) (C := RX8) (T := TX8) (N := 32) hx hb hts hiX8 hown hK hP 0 rfl rfl 20 (Nat.le_of_ble_eq_true rfl) fl204 (fun _ h9 => h9) rfl dX8_orders_47 ?_
      refine lv_aload_n hx hb dX8_orders_50 rfl (lv_at hl 0 rfl) ?_
      refine va_get (D := D) (ci := 7) (v := .int (nI mo_hm)) (C := RX8) (T := TX8) (N := 32) hx hb hts hiX8 hown hK hP 0 rfl rfl 4 (Nat.le_of_ble_eq_true rfl) fl66 (fun _ h9 => h9) rfl dX8_orders_51 ?_
      refine hs_ciM (va_runV (As := [.int (nI (u_10.1.2.1)), .int (nI mo_hm)]) (rest := []) ⟨hx, hb, hml, hown, hts⟩ (gm_isOrder l D k _ mo mo_st mo_at mo_isKept mo_pe mo_hm mo_draft mo_dp mo_dh mo_toldLines mo_highest mo_tape mo_tl mo_ps mo_fr mo_sort mo_value mo_ft mo_wrongAt mo_row u_10.1.1 u_10.1.2.1 u_10.1.2.2.1 u_10.1.2.2.2 mo_before mo_justSum mo_toldSum mo_allWays mo_lanes mo_sizes mo_cells mo_torn mo_had u_10.2.1 u_10.1.2.1 mo_hm (by omega) (by omega) (by omega)) (cwV 2 hts gX8_orders_X8_isOrder rfl rfl rfl ⟨rfl, hq_X8_isOrder⟩ ⟨Nat.le_of_ble_eq_true rfl, Nat.le_of_ble_eq_true rfl⟩) (hs_preV hK hN (hs_subP (w := [_, _]) hP [0, 3] rfl) (hD.sub (ws' := [_, _]) [0, 3] (hs_upnd rfl) rfl) (ci := 7) (q0 := 0) rfl rfl) rfl rfl hl.1 rfl (lv_room (Nat.le_of_ble_eq_true rfl)) dX8_orders_54 ⟨Nat.le_of_ble_eq_true rfl, Nat.le_of_ble_eq_true rfl⟩) hP hD hS hA [false, true, true, false, true] [_, _, _] [_, _] rfl [0, 1] rfl [0, 1] (fun u_13 => [_, _]) (fun _ => rfl) (hs_upnd rfl) [false, true, true, false, true] (fun u_13 => [_, _, _, _, _]) (fun _ => rfl) (fun r_11 u_13 H locs hw_12 hP hD hS => ?_)
      have hw_12 : ∀ j, j < mo_hm → ∃ v : Nat, v < mo_hm ∧ u_13 j = nI v := hw_12
      refine lv_pop hx hb dX8_orders_57 rfl ?_
      refine lv_iload_n hx hb dX8_orders_58 rfl (lv_at hl 1 rfl) ?_
      refine lv_if_ne (tgt := 69) hx hb dX8_orders_59 rfl (fun c_14 => absurd c_14 (by decide)) (fun c_14 => ?_)
      refine lv_aload_n hx hb dX8_orders_62 rfl (lv_at hl 0 rfl) ?_
      refine va_get (D := D) (ci := 7) (v := .int u_10.1.1) (C := RX8) (T := TX8) (N := 32) hx hb hts hiX8 hown hK hP 0 rfl rfl 19 (Nat.le_of_ble_eq_true rfl) fl149 (fun _ h9 => h9) rfl dX8_orders_63 ?_
      refine lv_goto (tgt := 102) hx hb dX8_orders_66 rfl ?_
      exact hs_iret hx hb hr hlocks hK hP hD hS (u_7, ((u_10.1.1, u_10.1.2.1, u_10.1.2.2.1, u_10.1.2.2.2), u_13, u_10.2.2)) [0, 1, 2, 3, 4] rfl (hs_upnd rfl) dX8_orders_102 (trivial)
    · refine lv_aload_n hx hb dX8_orders_33 rfl (lv_at hl 0 rfl) ?_
      refine hs_cvM (va_runV (As := []) (rest := []) ⟨hx, hb, hml, hown, hts⟩ (gm_starts l D k _ mo mo_st mo_at mo_isKept mo_pe mo_hm mo_draft mo_dp mo_dh mo_toldLines mo_highest mo_tape mo_tl mo_ps mo_fr mo_sort mo_value mo_ft mo_wrongAt mo_row mo_orderMany mo_fo mo_lightest mo_heaviest mo_before mo_justSum mo_toldSum mo_allWays mo_lanes mo_sizes mo_cells mo_torn mo_had sf af) (cwV 0 hts gX8_orders_X8_starts rfl rfl rfl ⟨rfl, hq_X8_starts⟩ ⟨Nat.le_of_ble_eq_true rfl, Nat.le_of_ble_eq_true rfl⟩) (hs_preV hK hN (hs_subP (w := [_, _, _]) hP [0, 1, 2] rfl) (hD.sub (ws' := [_, _, _]) [0, 1, 2] (hs_upnd rfl) rfl) (ci := 7) (q0 := 0) rfl rfl) rfl rfl hl.1 rfl (lv_room (Nat.le_of_ble_eq_true rfl)) dX8_orders_34 ⟨Nat.le_of_ble_eq_true rfl, Nat.le_of_ble_eq_true rfl⟩) hP hD hS hA [false, false, false, true, true] [_, _] [_, _, _] rfl [0, 1, 2] rfl [0, 1, 2] (fun u_17 => [_, _, _]) (fun _ => rfl) (hs_upnd rfl) [false, false, false, true, true] (fun u_17 => [_, _, _, _, _]) (fun _ => rfl) (fun u_17 H locs hw_16 hP hD hS => ?_)
      have hw_16 : ∀ j, j < 44 → u_17 j = sf j := hw_16
      have e0a : u_17 0 = nI c0 := (hw_16 0 (by decide)).trans e0
      have e3a : u_17 16 = nI c3 := (hw_16 16 (by decide)).trans e3
      have e4a : u_17 25 = nI c4 := (hw_16 25 (by decide)).trans e4
      have hw_16 : ∀ j, j < 44 → u_17 j = sf j := hw_16
      refine lv_aload_n hx hb dX8_orders_37 rfl (lv_at hl 0 rfl) ?_
      refine lv_aload_n hx hb dX8_orders_38 rfl (lv_at hl 0 rfl) ?_
      refine va_get (D := D) (ci := 7) (v := .int (nI mo_hm)) (C := RX8) (T := TX8) (N := 32) hx hb hts hiX8 hown hK hP 0 rfl rfl 4 (Nat.le_of_ble_eq_true rfl) fl66 (fun _ h9 => h9) rfl dX8_orders_39 ?_
      refine hs_cvM (va_runV (As := [.int (nI mo_hm)]) (rest := []) ⟨hx, hb, hml, hown, hts⟩ (gm_findOrders l D k _ mo mo_st mo_at mo_isKept mo_pe mo_hm mo_draft mo_dp mo_dh mo_toldLines mo_highest mo_tape mo_tl mo_ps mo_fr mo_sort mo_value mo_ft mo_wrongAt mo_row mo_orderMany mo_fo mo_lightest mo_heaviest mo_before mo_justSum mo_toldSum mo_allWays mo_lanes mo_sizes mo_cells mo_torn mo_had u_17 rf bf c3 mo_hm (by first | exact e3a | exact e3) (by omega) (by omega) (by omega)) (cwV 1 hts gX8_orders_X8_findOrders rfl rfl rfl ⟨rfl, hq_X8_findOrders⟩ ⟨Nat.le_of_ble_eq_true rfl, Nat.le_of_ble_eq_true rfl⟩) (hs_preV hK hN (hs_subP (w := [_, _, _, _]) hP [0, 2, 3, 4] rfl) (hD.sub (ws' := [_, _, _, _]) [0, 2, 3, 4] (hs_upnd rfl) rfl) (ci := 7) (q0 := 0) rfl rfl) rfl rfl hl.1 rfl (lv_room (Nat.le_of_ble_eq_true rfl)) dX8_orders_42 ⟨Nat.le_of_ble_eq_true rfl, Nat.le_of_ble_eq_true rfl⟩) hP hD hS hA [false, true, false, false, false] [_] [_, _, _, _] rfl [0, 1, 2, 3] rfl [0, 1, 2, 3] (fun u_20 => [_, _, _, _]) (fun _ => rfl) (hs_upnd rfl) [false, true, false, false, false] (fun u_20 => [_, _, _, _, _]) (fun _ => rfl) (fun u_20 H locs hw_19 hP hD hS => ?_)
      have hw_19 : u_20.1.2.1 ≤ 3125 := hw_19
      refine lv_aload_n hx hb dX8_orders_45 rfl (lv_at hl 0 rfl) ?_
      refine lv_aload_n hx hb dX8_orders_46 rfl (lv_at hl 0 rfl) ?_
      refine va_get (D := D) (ci := 7) (v := .int (nI (u_20.1.2.1))) (C := RX8) (T := TX8) (N := 32) hx hb hts hiX8 hown hK hP 0 rfl rfl 20 (Nat.le_of_ble_eq_true rfl) fl204 (fun _ h9 => h9) rfl dX8_orders_47 ?_
      refine lv_aload_n hx hb dX8_orders_50 rfl (lv_at hl 0 rfl) ?_
      refine va_get (D := D) (ci := 7) (v := .int (nI mo_hm)) (C := RX8) (T := TX8) (N := 32) hx hb hts hiX8 hown hK hP 0 rfl rfl 4 (Nat.le_of_ble_eq_true rfl) fl66 (fun _ h9 => h9) rfl dX8_orders_51 ?_
      refine hs_ciM (va_runV (As := [.int (nI (u_20.1.2.1)), .int (nI mo_hm)]) (rest := []) ⟨hx, hb, hml, hown, hts⟩ (gm_isOrder l D k _ mo mo_st mo_at mo_isKept mo_pe mo_hm mo_draft mo_dp mo_dh mo_toldLines mo_highest mo_tape mo_tl mo_ps mo_fr mo_sort mo_value mo_ft mo_wrongAt mo_row u_20.1.1 u_20.1.2.1 u_20.1.2.2.1 u_20.1.2.2.2 mo_before mo_justSum mo_toldSum mo_allWays mo_lanes mo_sizes mo_cells mo_torn mo_had u_20.2.1 u_20.1.2.1 mo_hm (by omega) (by omega) (by omega)) (cwV 2 hts gX8_orders_X8_isOrder rfl rfl rfl ⟨rfl, hq_X8_isOrder⟩ ⟨Nat.le_of_ble_eq_true rfl, Nat.le_of_ble_eq_true rfl⟩) (hs_preV hK hN (hs_subP (w := [_, _]) hP [0, 3] rfl) (hD.sub (ws' := [_, _]) [0, 3] (hs_upnd rfl) rfl) (ci := 7) (q0 := 0) rfl rfl) rfl rfl hl.1 rfl (lv_room (Nat.le_of_ble_eq_true rfl)) dX8_orders_54 ⟨Nat.le_of_ble_eq_true rfl, Nat.le_of_ble_eq_true rfl⟩) hP hD hS hA [false, true, true, false, true] [_, _, _] [_, _] rfl [0, 1] rfl [0, 1] (fun u_23 => [_, _]) (fun _ => rfl) (hs_upnd rfl) [false, true, true, false, true] (fun u_23 => [_, _, _, _, _]) (fun _ => rfl) (fun r_21 u_23 H locs hw_22 hP hD hS => ?_)
      have hw_22 : ∀ j, j < mo_hm → ∃ v : Nat, v < mo_hm ∧ u_23 j = nI v := hw_22
      refine lv_pop hx hb dX8_orders_57 rfl ?_
      refine lv_iload_n hx hb dX8_orders_58 rfl (lv_at hl 1 rfl) ?_
      refine lv_if_ne (tgt := 69) hx hb dX8_orders_59 rfl (fun c_24 => ?_) (fun c_24 => absurd c_24 (by decide))
      refine lv_iload_n hx hb dX8_orders_69 rfl (lv_at hl 1 rfl) ?_
      refine lv_iconst (v := 1) hx hb dX8_orders_70 hki_1 ?_
      refine lv_icmp_ne (tgt := 81) hx hb dX8_orders_71 rfl (fun c_25 => absurd c_25 (by decide)) (fun c_25 => ?_)
      refine lv_aload_n hx hb dX8_orders_74 rfl (lv_at hl 0 rfl) ?_
      refine va_get (D := D) (ci := 7) (v := .int u_20.1.2.2.1) (C := RX8) (T := TX8) (N := 32) hx hb hts hiX8 hown hK hP 0 rfl rfl 21 (Nat.le_of_ble_eq_true rfl) fl207 (fun _ h9 => h9) rfl dX8_orders_75 ?_
      refine lv_goto (tgt := 102) hx hb dX8_orders_78 rfl ?_
      exact hs_iret hx hb hr hlocks hK hP hD hS (u_17, ((u_20.1.1, u_20.1.2.1, u_20.1.2.2.1, u_20.1.2.2.2), u_23, u_20.2.2)) [0, 1, 2, 3, 4] rfl (hs_upnd rfl) dX8_orders_102 (trivial)
    · refine lv_aload_n hx hb dX8_orders_33 rfl (lv_at hl 0 rfl) ?_
      refine hs_cvM (va_runV (As := []) (rest := []) ⟨hx, hb, hml, hown, hts⟩ (gm_starts l D k _ mo mo_st mo_at mo_isKept mo_pe mo_hm mo_draft mo_dp mo_dh mo_toldLines mo_highest mo_tape mo_tl mo_ps mo_fr mo_sort mo_value mo_ft mo_wrongAt mo_row mo_orderMany mo_fo mo_lightest mo_heaviest mo_before mo_justSum mo_toldSum mo_allWays mo_lanes mo_sizes mo_cells mo_torn mo_had sf af) (cwV 0 hts gX8_orders_X8_starts rfl rfl rfl ⟨rfl, hq_X8_starts⟩ ⟨Nat.le_of_ble_eq_true rfl, Nat.le_of_ble_eq_true rfl⟩) (hs_preV hK hN (hs_subP (w := [_, _, _]) hP [0, 1, 2] rfl) (hD.sub (ws' := [_, _, _]) [0, 1, 2] (hs_upnd rfl) rfl) (ci := 7) (q0 := 0) rfl rfl) rfl rfl hl.1 rfl (lv_room (Nat.le_of_ble_eq_true rfl)) dX8_orders_34 ⟨Nat.le_of_ble_eq_true rfl, Nat.le_of_ble_eq_true rfl⟩) hP hD hS hA [false, false, false, true, true] [_, _] [_, _, _] rfl [0, 1, 2] rfl [0, 1, 2] (fun u_28 => [_, _, _]) (fun _ => rfl) (hs_upnd rfl) [false, false, false, true, true] (fun u_28 => [_, _, _, _, _]) (fun _ => rfl) (fun u_28 H locs hw_27 hP hD hS => ?_)
      have hw_27 : ∀ j, j < 44 → u_28 j = sf j := hw_27
      have e0a : u_28 0 = nI c0 := (hw_27 0 (by decide)).trans e0
      have e3a : u_28 16 = nI c3 := (hw_27 16 (by decide)).trans e3
      have e4a : u_28 25 = nI c4 := (hw_27 25 (by decide)).trans e4
      have hw_27 : ∀ j, j < 44 → u_28 j = sf j := hw_27
      refine lv_aload_n hx hb dX8_orders_37 rfl (lv_at hl 0 rfl) ?_
      refine lv_aload_n hx hb dX8_orders_38 rfl (lv_at hl 0 rfl) ?_
      refine va_get (D := D) (ci := 7) (v := .int (nI mo_hm)) (C := RX8) (T := TX8) (N := 32) hx hb hts hiX8 hown hK hP 0 rfl rfl 4 (Nat.le_of_ble_eq_true rfl) fl66 (fun _ h9 => h9) rfl dX8_orders_39 ?_
      refine hs_cvM (va_runV (As := [.int (nI mo_hm)]) (rest := []) ⟨hx, hb, hml, hown, hts⟩ (gm_findOrders l D k _ mo mo_st mo_at mo_isKept mo_pe mo_hm mo_draft mo_dp mo_dh mo_toldLines mo_highest mo_tape mo_tl mo_ps mo_fr mo_sort mo_value mo_ft mo_wrongAt mo_row mo_orderMany mo_fo mo_lightest mo_heaviest mo_before mo_justSum mo_toldSum mo_allWays mo_lanes mo_sizes mo_cells mo_torn mo_had u_28 rf bf c3 mo_hm (by first | exact e3a | exact e3) (by omega) (by omega) (by omega)) (cwV 1 hts gX8_orders_X8_findOrders rfl rfl rfl ⟨rfl, hq_X8_findOrders⟩ ⟨Nat.le_of_ble_eq_true rfl, Nat.le_of_ble_eq_true rfl⟩) (hs_preV hK hN (hs_subP (w := [_, _, _, _]) hP [0, 2, 3, 4] rfl) (hD.sub (ws' := [_, _, _, _]) [0, 2, 3, 4] (hs_upnd rfl) rfl) (ci := 7) (q0 := 0) rfl rfl) rfl rfl hl.1 rfl (lv_room (Nat.le_of_ble_eq_true rfl)) dX8_orders_42 ⟨Nat.le_of_ble_eq_true rfl, Nat.le_of_ble_eq_true rfl⟩) hP hD hS hA [false, true, false, false, false] [_] [_, _, _, _] rfl [0, 1, 2, 3] rfl [0, 1, 2, 3] (fun u_31 => [_, _, _, _]) (fun _ => rfl) (hs_upnd rfl) [false, true, false, false, false] (fun u_31 => [_, _, _, _, _]) (fun _ => rfl) (fun u_31 H locs hw_30 hP hD hS => ?_)
      have hw_30 : u_31.1.2.1 ≤ 3125 := hw_30
      refine lv_aload_n hx hb dX8_orders_45 rfl (lv_at hl 0 rfl) ?_
      refine lv_aload_n hx hb dX8_orders_46 rfl (lv_at hl 0 rfl) ?_
      refine va_get (D := D) (ci := 7) (v := .int (nI (u_31.1.2.1))) (C := RX8) (T := TX8) (N := 32) hx hb hts hiX8 hown hK hP 0 rfl rfl 20 (Nat.le_of_ble_eq_true rfl) fl204 (fun _ h9 => h9) rfl dX8_orders_47 ?_
      refine lv_aload_n hx hb dX8_orders_50 rfl (lv_at hl 0 rfl) ?_
      refine va_get (D := D) (ci := 7) (v := .int (nI mo_hm)) (C := RX8) (T := TX8) (N := 32) hx hb hts hiX8 hown hK hP 0 rfl rfl 4 (Nat.le_of_ble_eq_true rfl) fl66 (fun _ h9 => h9) rfl dX8_orders_51 ?_
      refine hs_ciM (va_runV (As := [.int (nI (u_31.1.2.1)), .int (nI mo_hm)]) (rest := []) ⟨hx, hb, hml, hown, hts⟩ (gm_isOrder l D k _ mo mo_st mo_at mo_isKept mo_pe mo_hm mo_draft mo_dp mo_dh mo_toldLines mo_highest mo_tape mo_tl mo_ps mo_fr mo_sort mo_value mo_ft mo_wrongAt mo_row u_31.1.1 u_31.1.2.1 u_31.1.2.2.1 u_31.1.2.2.2 mo_before mo_justSum mo_toldSum mo_allWays mo_lanes mo_sizes mo_cells mo_torn mo_had u_31.2.1 u_31.1.2.1 mo_hm (by omega) (by omega) (by omega)) (cwV 2 hts gX8_orders_X8_isOrder rfl rfl rfl ⟨rfl, hq_X8_isOrder⟩ ⟨Nat.le_of_ble_eq_true rfl, Nat.le_of_ble_eq_true rfl⟩) (hs_preV hK hN (hs_subP (w := [_, _]) hP [0, 3] rfl) (hD.sub (ws' := [_, _]) [0, 3] (hs_upnd rfl) rfl) (ci := 7) (q0 := 0) rfl rfl) rfl rfl hl.1 rfl (lv_room (Nat.le_of_ble_eq_true rfl)) dX8_orders_54 ⟨Nat.le_of_ble_eq_true rfl, Nat.le_of_ble_eq_true rfl⟩) hP hD hS hA [false, true, true, false, true] [_, _, _] [_, _] rfl [0, 1] rfl [0, 1] (fun u_34 => [_, _]) (fun _ => rfl) (hs_upnd rfl) [false, true, true, false, true] (fun u_34 => [_, _, _, _, _]) (fun _ => rfl) (fun r_32 u_34 H locs hw_33 hP hD hS => ?_)
      have hw_33 : ∀ j, j < mo_hm → ∃ v : Nat, v < mo_hm ∧ u_34 j = nI v := hw_33
      refine lv_pop hx hb dX8_orders_57 rfl ?_
      refine lv_iload_n hx hb dX8_orders_58 rfl (lv_at hl 1 rfl) ?_
      refine lv_if_ne (tgt := 69) hx hb dX8_orders_59 rfl (fun c_35 => ?_) (fun c_35 => absurd c_35 (by decide))
      refine lv_iload_n hx hb dX8_orders_69 rfl (lv_at hl 1 rfl) ?_
      refine lv_iconst (v := 1) hx hb dX8_orders_70 hki_1 ?_
      refine lv_icmp_ne (tgt := 81) hx hb dX8_orders_71 rfl (fun c_36 => ?_) (fun c_36 => absurd c_36 (by decide))
      refine lv_iload_n hx hb dX8_orders_81 rfl (lv_at hl 1 rfl) ?_
      refine lv_iconst (v := 2) hx hb dX8_orders_82 hki_2 ?_
      refine lv_icmp_ne (tgt := 93) hx hb dX8_orders_83 rfl (fun c_37 => absurd c_37 (by decide)) (fun c_37 => ?_)
      refine lv_aload_n hx hb dX8_orders_86 rfl (lv_at hl 0 rfl) ?_
      refine va_get (D := D) (ci := 7) (v := .int u_31.1.2.2.2) (C := RX8) (T := TX8) (N := 32) hx hb hts hiX8 hown hK hP 0 rfl rfl 22 (Nat.le_of_ble_eq_true rfl) fl210 (fun _ h9 => h9) rfl dX8_orders_87 ?_
      refine lv_goto (tgt := 102) hx hb dX8_orders_90 rfl ?_
      exact hs_iret hx hb hr hlocks hK hP hD hS (u_28, ((u_31.1.1, u_31.1.2.1, u_31.1.2.2.1, u_31.1.2.2.2), u_34, u_31.2.2)) [0, 1, 2, 3, 4] rfl (hs_upnd rfl) dX8_orders_102 (trivial)
  · refine lv_iload_n hx hb dX8_orders_12 rfl (lv_at hl 1 rfl) ?_
    refine lv_bipush (v := 10) hx hb dX8_orders_13 hkb_10 ?_
    refine lv_isub hx hb dX8_orders_15 ?_
    refine lv_i2l hx hb dX8_orders_16 rfl ?_
    refine lv_lconst (v := 0) hx hb dX8_orders_17 (by decide) ?_
    refine lv_aload_n hx hb dX8_orders_18 rfl (lv_at hl 0 rfl) ?_
    refine va_get (D := D) (ci := 7) (v := .int (nI mo_hm)) (C := RX8) (T := TX8) (N := 32) hx hb hts hiX8 hown hK hP 0 rfl rfl 4 (Nat.le_of_ble_eq_true rfl) fl66 (fun _ h9 => h9) rfl dX8_orders_19 ?_
    refine lv_iconst (v := 1) hx hb dX8_orders_22 hki_1 ?_
    refine lv_isub hx hb dX8_orders_23 ?_
    refine lv_i2l hx hb dX8_orders_24 rfl ?_
    refine hs_pi (va_runS (As := [.long (((what - 10) : Int32).toInt64), .long 0, .long ((((nI mo_hm) - 1) : Int32).toInt64)]) (rest := []) ⟨hx, hb, hml, hown, hts⟩ (gm_in l D k _ (what - 10) 0 ((nI mo_hm) - 1)) (va_cwS 3 hts gX8_orders_X8_in rfl rfl rfl hq_X8_in ⟨Nat.le_of_ble_eq_true rfl, Nat.le_of_ble_eq_true rfl⟩) (hs_preS hK hN (hs_subP (w := []) hP [] rfl) (hD.sub (ws' := []) [] rfl rfl)) rfl rfl hl.1 rfl (lv_room (Nat.le_of_ble_eq_true rfl)) dX8_orders_25 ⟨Nat.le_of_ble_eq_true rfl, Nat.le_of_ble_eq_true rfl⟩) hP hD hS hA (fun r_38 u_40 H locs hw_39 hP hS => ?_)
    refine hs_topi (hsb (hsin (what - 10) 0 ((nI mo_hm) - 1))) hw_39 ?_
    refine lv_if_ne (tgt := 33) hx hb dX8_orders_28 rfl (fun c_41 => ?_) (fun c_41 => ?_)
    · refine lv_aload_n hx hb dX8_orders_33 rfl (lv_at hl 0 rfl) ?_
      refine hs_cvM (va_runV (As := []) (rest := []) ⟨hx, hb, hml, hown, hts⟩ (gm_starts l D k _ mo mo_st mo_at mo_isKept mo_pe mo_hm mo_draft mo_dp mo_dh mo_toldLines mo_highest mo_tape mo_tl mo_ps mo_fr mo_sort mo_value mo_ft mo_wrongAt mo_row mo_orderMany mo_fo mo_lightest mo_heaviest mo_before mo_justSum mo_toldSum mo_allWays mo_lanes mo_sizes mo_cells mo_torn mo_had sf af) (cwV 0 hts gX8_orders_X8_starts rfl rfl rfl ⟨rfl, hq_X8_starts⟩ ⟨Nat.le_of_ble_eq_true rfl, Nat.le_of_ble_eq_true rfl⟩) (hs_preV hK hN (hs_subP (w := [_, _, _]) hP [0, 1, 2] rfl) (hD.sub (ws' := [_, _, _]) [0, 1, 2] (hs_upnd rfl) rfl) (ci := 7) (q0 := 0) rfl rfl) rfl rfl hl.1 rfl (lv_room (Nat.le_of_ble_eq_true rfl)) dX8_orders_34 ⟨Nat.le_of_ble_eq_true rfl, Nat.le_of_ble_eq_true rfl⟩) hP hD hS hA [false, false, false, true, true] [_, _] [_, _, _] rfl [0, 1, 2] rfl [0, 1, 2] (fun u_44 => [_, _, _]) (fun _ => rfl) (hs_upnd rfl) [false, false, false, true, true] (fun u_44 => [_, _, _, _, _]) (fun _ => rfl) (fun u_44 H locs hw_43 hP hD hS => ?_)
      have hw_43 : ∀ j, j < 44 → u_44 j = sf j := hw_43
      have e0a : u_44 0 = nI c0 := (hw_43 0 (by decide)).trans e0
      have e3a : u_44 16 = nI c3 := (hw_43 16 (by decide)).trans e3
      have e4a : u_44 25 = nI c4 := (hw_43 25 (by decide)).trans e4
      have hw_43 : ∀ j, j < 44 → u_44 j = sf j := hw_43
      refine lv_aload_n hx hb dX8_orders_37 rfl (lv_at hl 0 rfl) ?_
      refine lv_aload_n hx hb dX8_orders_38 rfl (lv_at hl 0 rfl) ?_
      refine va_get (D := D) (ci := 7) (v := .int (nI mo_hm)) (C := RX8) (T := TX8) (N := 32) hx hb hts hiX8 hown hK hP 0 rfl rfl 4 (Nat.le_of_ble_eq_true rfl) fl66 (fun _ h9 => h9) rfl dX8_orders_39 ?_
      refine hs_cvM (va_runV (As := [.int (nI mo_hm)]) (rest := []) ⟨hx, hb, hml, hown, hts⟩ (gm_findOrders l D k _ mo mo_st mo_at mo_isKept mo_pe mo_hm mo_draft mo_dp mo_dh mo_toldLines mo_highest mo_tape mo_tl mo_ps mo_fr mo_sort mo_value mo_ft mo_wrongAt mo_row mo_orderMany mo_fo mo_lightest mo_heaviest mo_before mo_justSum mo_toldSum mo_allWays mo_lanes mo_sizes mo_cells mo_torn mo_had u_44 rf bf c3 mo_hm (by first | exact e3a | exact e3) (by omega) (by omega) (by omega)) (cwV 1 hts gX8_orders_X8_findOrders rfl rfl rfl ⟨rfl, hq_X8_findOrders⟩ ⟨Nat.le_of_ble_eq_true rfl, Nat.le_of_ble_eq_true rfl⟩) (hs_preV hK hN (hs_subP (w := [_, _, _, _]) hP [0, 2, 3, 4] rfl) (hD.sub (ws' := [_, _, _, _]) [0, 2, 3, 4] (hs_upnd rfl) rfl) (ci := 7) (q0 := 0) rfl rfl) rfl rfl hl.1 rfl (lv_room (Nat.le_of_ble_eq_true rfl)) dX8_orders_42 ⟨Nat.le_of_ble_eq_true rfl, Nat.le_of_ble_eq_true rfl⟩) hP hD hS hA [false, true, false, false, false] [_] [_, _, _, _] rfl [0, 1, 2, 3] rfl [0, 1, 2, 3] (fun u_47 => [_, _, _, _]) (fun _ => rfl) (hs_upnd rfl) [false, true, false, false, false] (fun u_47 => [_, _, _, _, _]) (fun _ => rfl) (fun u_47 H locs hw_46 hP hD hS => ?_)
      have hw_46 : u_47.1.2.1 ≤ 3125 := hw_46
      refine lv_aload_n hx hb dX8_orders_45 rfl (lv_at hl 0 rfl) ?_
      refine lv_aload_n hx hb dX8_orders_46 rfl (lv_at hl 0 rfl) ?_
      refine va_get (D := D) (ci := 7) (v := .int (nI (u_47.1.2.1))) (C := RX8) (T := TX8) (N := 32) hx hb hts hiX8 hown hK hP 0 rfl rfl 20 (Nat.le_of_ble_eq_true rfl) fl204 (fun _ h9 => h9) rfl dX8_orders_47 ?_
      refine lv_aload_n hx hb dX8_orders_50 rfl (lv_at hl 0 rfl) ?_
      refine va_get (D := D) (ci := 7) (v := .int (nI mo_hm)) (C := RX8) (T := TX8) (N := 32) hx hb hts hiX8 hown hK hP 0 rfl rfl 4 (Nat.le_of_ble_eq_true rfl) fl66 (fun _ h9 => h9) rfl dX8_orders_51 ?_
      refine hs_ciM (va_runV (As := [.int (nI (u_47.1.2.1)), .int (nI mo_hm)]) (rest := []) ⟨hx, hb, hml, hown, hts⟩ (gm_isOrder l D k _ mo mo_st mo_at mo_isKept mo_pe mo_hm mo_draft mo_dp mo_dh mo_toldLines mo_highest mo_tape mo_tl mo_ps mo_fr mo_sort mo_value mo_ft mo_wrongAt mo_row u_47.1.1 u_47.1.2.1 u_47.1.2.2.1 u_47.1.2.2.2 mo_before mo_justSum mo_toldSum mo_allWays mo_lanes mo_sizes mo_cells mo_torn mo_had u_47.2.1 u_47.1.2.1 mo_hm (by omega) (by omega) (by omega)) (cwV 2 hts gX8_orders_X8_isOrder rfl rfl rfl ⟨rfl, hq_X8_isOrder⟩ ⟨Nat.le_of_ble_eq_true rfl, Nat.le_of_ble_eq_true rfl⟩) (hs_preV hK hN (hs_subP (w := [_, _]) hP [0, 3] rfl) (hD.sub (ws' := [_, _]) [0, 3] (hs_upnd rfl) rfl) (ci := 7) (q0 := 0) rfl rfl) rfl rfl hl.1 rfl (lv_room (Nat.le_of_ble_eq_true rfl)) dX8_orders_54 ⟨Nat.le_of_ble_eq_true rfl, Nat.le_of_ble_eq_true rfl⟩) hP hD hS hA [false, true, true, false, true] [_, _, _] [_, _] rfl [0, 1] rfl [0, 1] (fun u_50 => [_, _]) (fun _ => rfl) (hs_upnd rfl) [false, true, true, false, true] (fun u_50 => [_, _, _, _, _]) (fun _ => rfl) (fun r_48 u_50 H locs hw_49 hP hD hS => ?_)
      have hw_49 : ∀ j, j < mo_hm → ∃ v : Nat, v < mo_hm ∧ u_50 j = nI v := hw_49
      refine lv_pop hx hb dX8_orders_57 rfl ?_
      refine lv_iload_n hx hb dX8_orders_58 rfl (lv_at hl 1 rfl) ?_
      refine lv_if_ne (tgt := 69) hx hb dX8_orders_59 rfl (fun c_51 => ?_) (fun c_51 => ?_)
      · refine lv_iload_n hx hb dX8_orders_69 rfl (lv_at hl 1 rfl) ?_
        refine lv_iconst (v := 1) hx hb dX8_orders_70 hki_1 ?_
        refine lv_icmp_ne (tgt := 81) hx hb dX8_orders_71 rfl (fun c_52 => ?_) (fun c_52 => ?_)
        · refine lv_iload_n hx hb dX8_orders_81 rfl (lv_at hl 1 rfl) ?_
          refine lv_iconst (v := 2) hx hb dX8_orders_82 hki_2 ?_
          refine lv_icmp_ne (tgt := 93) hx hb dX8_orders_83 rfl (fun c_53 => ?_) (fun c_53 => ?_)
          · refine lv_aload_n hx hb dX8_orders_93 rfl (lv_at hl 0 rfl) ?_
            refine va_get (D := D) (ci := 7) (v := .ref mo_row) (C := RX8) (T := TX8) (N := 32) hx hb hts hiX8 hown hK hP 0 rfl rfl 18 (Nat.le_of_ble_eq_true rfl) fl26 (fun _ h9 => h9) rfl dX8_orders_94 ?_
            refine lv_iload_n hx hb dX8_orders_97 rfl (lv_at hl 1 rfl) ?_
            refine lv_bipush (v := 10) hx hb dX8_orders_98 hkb_10 ?_
            refine lv_isub hx hb dX8_orders_100 ?_
            refine va_iald hx hb hK hP 3 0 rfl rfl (hs_in8 (by omega) (hs_nb c_41)) dX8_orders_101 ?_
            exact hs_iret hx hb hr hlocks hK hP hD hS (u_44, ((u_47.1.1, u_47.1.2.1, u_47.1.2.2.1, u_47.1.2.2.2), u_50, u_47.2.2)) [0, 1, 2, 3, 4] rfl (hs_upnd rfl) dX8_orders_102 (trivial)
          · subst c_53
            refine lv_aload_n hx hb dX8_orders_86 rfl (lv_at hl 0 rfl) ?_
            refine va_get (D := D) (ci := 7) (v := .int u_47.1.2.2.2) (C := RX8) (T := TX8) (N := 32) hx hb hts hiX8 hown hK hP 0 rfl rfl 22 (Nat.le_of_ble_eq_true rfl) fl210 (fun _ h9 => h9) rfl dX8_orders_87 ?_
            refine lv_goto (tgt := 102) hx hb dX8_orders_90 rfl ?_
            exact hs_iret hx hb hr hlocks hK hP hD hS (u_44, ((u_47.1.1, u_47.1.2.1, u_47.1.2.2.1, u_47.1.2.2.2), u_50, u_47.2.2)) [0, 1, 2, 3, 4] rfl (hs_upnd rfl) dX8_orders_102 (trivial)
        · subst c_52
          refine lv_aload_n hx hb dX8_orders_74 rfl (lv_at hl 0 rfl) ?_
          refine va_get (D := D) (ci := 7) (v := .int u_47.1.2.2.1) (C := RX8) (T := TX8) (N := 32) hx hb hts hiX8 hown hK hP 0 rfl rfl 21 (Nat.le_of_ble_eq_true rfl) fl207 (fun _ h9 => h9) rfl dX8_orders_75 ?_
          refine lv_goto (tgt := 102) hx hb dX8_orders_78 rfl ?_
          exact hs_iret hx hb hr hlocks hK hP hD hS (u_44, ((u_47.1.1, u_47.1.2.1, u_47.1.2.2.1, u_47.1.2.2.2), u_50, u_47.2.2)) [0, 1, 2, 3, 4] rfl (hs_upnd rfl) dX8_orders_102 (trivial)
      · subst c_51
        refine lv_aload_n hx hb dX8_orders_62 rfl (lv_at hl 0 rfl) ?_
        refine va_get (D := D) (ci := 7) (v := .int u_47.1.1) (C := RX8) (T := TX8) (N := 32) hx hb hts hiX8 hown hK hP 0 rfl rfl 19 (Nat.le_of_ble_eq_true rfl) fl149 (fun _ h9 => h9) rfl dX8_orders_63 ?_
        refine lv_goto (tgt := 102) hx hb dX8_orders_66 rfl ?_
        exact hs_iret hx hb hr hlocks hK hP hD hS (u_44, ((u_47.1.1, u_47.1.2.1, u_47.1.2.2.1, u_47.1.2.2.2), u_50, u_47.2.2)) [0, 1, 2, 3, 4] rfl (hs_upnd rfl) dX8_orders_102 (trivial)
    · refine lv_iconst (v := (-1)) hx hb dX8_orders_31 hki_m1 ?_
      exact hs_iret hx hb hr hlocks hK hP hD hS (af, ((mo_orderMany, mo_fo, mo_lightest, mo_heaviest), rf, bf)) [0, 1, 2, 3, 4] rfl (hs_upnd rfl) dX8_orders_32 (trivial)

set_option maxHeartbeats 4000000 in
set_option maxRecDepth 100000 in
theorem gq_next (l : Launch) (D : va_G) (k : Nat → ClassId) (sz : Nat) (mo : Nat) (mo_st : Nat) (mo_at : Nat) (mo_isKept : Nat) (mo_pe : Nat) (mo_hm : Nat) (mo_draft : Nat) (mo_dp : Nat) (mo_dh : Nat) (mo_toldLines : Int32) (mo_highest : Int32) (mo_tape : Nat) (mo_tl : Nat) (mo_ps : Nat) (mo_fr : Nat) (mo_sort : Int32) (mo_value : Int32) (mo_ft : Nat) (mo_wrongAt : Int32) (mo_row : Nat) (mo_orderMany : Int32) (mo_fo : Nat) (mo_lightest : Int32) (mo_heaviest : Int32) (mo_before : Nat) (mo_justSum : Int64) (mo_toldSum : Int64) (mo_allWays : Int64) (mo_lanes : Nat) (mo_sizes : Nat) (mo_cells : Nat) (mo_torn : Int32) (mo_had : Nat) (sf : Nat → Int32) (c0 : Nat) (c3 : Nat) (c4 : Nat) (fi : Nat) (af : Nat → Int32) (rf : Nat → Int32) (bf : Nat → Int32) (what : Int32) (e0 : sf 0 = nI c0) (h0 : c0 ≤ 8) (h02 : 2 ≤ c0) (e3 : sf 16 = nI c3) (h3 : c3 ≤ 8) (e4 : sf 25 = nI c4) (h4 : c4 ≤ 6) (hpe : mo_pe ≤ 4) (hm2 : 2 ≤ mo_hm) (hm5 : mo_hm ≤ 5) (ef : sf 14 = nI fi) (hfi : fi ≤ 99) (hsaw : ∀ i, i < c4 → vp_in (sf (26 + 3 * i)) 4) : MI l yX8_next wsX8_next ({ frames := 3, cells := 0, slots := 0, locals := 71 }) D k [.ref mo, .int what] [oq7 mo mo_st mo_at mo_isKept (nI mo_pe) (nI mo_hm) mo_draft (nI mo_dp) (nI mo_dh) mo_toldLines mo_highest mo_tape (nI mo_tl) (nI mo_ps) (nI mo_fr) mo_sort mo_value (nI mo_ft) mo_wrongAt mo_row mo_orderMany (nI mo_fo) mo_lightest mo_heaviest mo_before mo_justSum mo_toldSum mo_allWays mo_lanes mo_sizes mo_cells mo_torn mo_had, oqI k mo_st 132 (sf), oqI k mo_at 44 (af), oqI k mo_row 5 (rf), oqI k mo_before 25 (bf)] sz (fun (r : Int32) (u : (Nat → Int32) × (Int32 × Nat × Int32 × Int32) × (Nat → Int32) × (Nat → Int32)) => True) (fun (u : (Nat → Int32) × (Int32 × Nat × Int32 × Int32) × (Nat → Int32) × (Nat → Int32)) => [oq7 mo mo_st mo_at mo_isKept (nI mo_pe) (nI mo_hm) mo_draft (nI mo_dp) (nI mo_dh) mo_toldLines mo_highest mo_tape (nI mo_tl) (nI mo_ps) (nI mo_fr) mo_sort mo_value (nI mo_ft) mo_wrongAt mo_row u.2.1.1 (nI (u.2.1.2.1)) u.2.1.2.2.1 u.2.1.2.2.2 mo_before mo_justSum mo_toldSum mo_allWays mo_lanes mo_sizes mo_cells mo_torn mo_had, oqI k mo_st 132 (sf), oqI k mo_at 44 (u.1), oqI k mo_row 5 (u.2.2.1), oqI k mo_before 25 (u.2.2.2)]) := by
  refine Met.ofW (cc := cX8_next) (maxL := 8) (ret := (some .int)) hpn_X8 rfl ?_
  intro p e s m args below meth c s₁ B hml hv
  obtain ⟨rfl, hsz, hP, hK, hD0, hN⟩ := hv
  have hx := B.exec
  have hb := B.bytes
  have hr := B.returns
  have hlocks := B.notSynchronized
  have hts := atoms_spec (ws := wsX8_next) B.pre
  have hown := findClass_of_methodNamed B.named
  have hown : s.vm.findClass RX8 = some m.cls := hown
  have hiX8 : ∀ w ∈ u_ws RX8 TX8 32, w ∈ wsX8_next := fun w9 hw9 => List.mem_cons_of_mem _ (igX8 w9 hw9)
  have fl66 := hts (.fieldLink RX8 66 "HalfScalesModel" "halfMany" "I") (List.mem_cons_of_mem _ (hs_inG 4 84 rfl rfl))
  have fl149 := hts (.fieldLink RX8 149 "HalfScalesModel" "orderMany" "I") (List.mem_cons_of_mem _ (hs_inG 4 99 rfl rfl))
  have fl29 := hts (.fieldLink RX8 29 "HalfScalesModel" "before" "[I") (List.mem_cons_of_mem _ (hs_inG 4 103 rfl rfl))
  subst hsz
  have hD := hD0.self (sz := s.heap.size)
  generalize hAe : va_A [oq7 mo mo_st mo_at mo_isKept (nI mo_pe) (nI mo_hm) mo_draft (nI mo_dp) (nI mo_dh) mo_toldLines mo_highest mo_tape (nI mo_tl) (nI mo_ps) (nI mo_fr) mo_sort mo_value (nI mo_ft) mo_wrongAt mo_row mo_orderMany (nI mo_fo) mo_lightest mo_heaviest mo_before mo_justSum mo_toldSum mo_allWays mo_lanes mo_sizes mo_cells mo_torn mo_had, oqI k mo_st 132 (sf), oqI k mo_at 44 (af), oqI k mo_row 5 (rf), oqI k mo_before 25 (bf)] s.heap.size = A at hD ⊢
  have hA : ∀ q : Nat, s.heap.size ≤ q → A q := fun q h => by rw [← hAe]; exact Or.inr h
  have hS : va_S A s.heap s.heap [] := va_S.rf
  have hl := lv_entry ([.ref mo, .int what]) (n := 8) (Nat.le_of_ble_eq_true rfl)
  rw [lg_entry_eq]
  generalize (lg_sl ([.ref mo, .int what]) ++ List.replicate (8 - (lg_sl ([.ref mo, .int what])).length) Slot.unset).toArray = ls at hl ⊢
  have hl : lv_has ls 8 [(0, .ref mo), (1, .int what)] := hl
  have hP : va_P D vwCl [oq7 mo mo_st mo_at mo_isKept (nI mo_pe) (nI mo_hm) mo_draft (nI mo_dp) (nI mo_dh) mo_toldLines mo_highest mo_tape (nI mo_tl) (nI mo_ps) (nI mo_fr) mo_sort mo_value (nI mo_ft) mo_wrongAt mo_row mo_orderMany (nI mo_fo) mo_lightest mo_heaviest mo_before mo_justSum mo_toldSum mo_allWays mo_lanes mo_sizes mo_cells mo_torn mo_had, oqI k mo_st 132 (sf), oqI k mo_at 44 (af), oqI k mo_row 5 (rf), oqI k mo_before 25 (bf)] s.heap := hP
  refine lv_iload_n hx hb dX8_next_0 rfl (lv_at hl 1 rfl) ?_
  refine hs_pi (va_runS (As := [.int what]) (rest := []) ⟨hx, hb, hml, hown, hts⟩ (gm_isPart l D k _ what) (va_cwS 1 hts gX8_next_X8_isPart rfl rfl rfl hq_X8_isPart ⟨Nat.le_of_ble_eq_true rfl, Nat.le_of_ble_eq_true rfl⟩) (hs_preS hK hN (hs_subP (w := []) hP [] rfl) (hD.sub (ws' := []) [] rfl rfl)) rfl rfl hl.1 rfl (lv_room (Nat.le_of_ble_eq_true rfl)) dX8_next_1 ⟨Nat.le_of_ble_eq_true rfl, Nat.le_of_ble_eq_true rfl⟩) hP hD hS hA (fun r_1 u_3 H locs hw_2 hP hS => ?_)
  refine hs_topi (hsb (hsin what 0 1)) hw_2 ?_
  refine lv_if_ne (tgt := 9) hx hb dX8_next_4 rfl (fun c_4 => ?_) (fun c_4 => ?_)
  · refine lv_aload_n hx hb dX8_next_9 rfl (lv_at hl 0 rfl) ?_
    refine hs_cvM (va_runV (As := []) (rest := []) ⟨hx, hb, hml, hown, hts⟩ (gm_starts l D k _ mo mo_st mo_at mo_isKept mo_pe mo_hm mo_draft mo_dp mo_dh mo_toldLines mo_highest mo_tape mo_tl mo_ps mo_fr mo_sort mo_value mo_ft mo_wrongAt mo_row mo_orderMany mo_fo mo_lightest mo_heaviest mo_before mo_justSum mo_toldSum mo_allWays mo_lanes mo_sizes mo_cells mo_torn mo_had sf af) (cwV 0 hts gX8_next_X8_starts rfl rfl rfl ⟨rfl, hq_X8_starts⟩ ⟨Nat.le_of_ble_eq_true rfl, Nat.le_of_ble_eq_true rfl⟩) (hs_preV hK hN (hs_subP (w := [_, _, _]) hP [0, 1, 2] rfl) (hD.sub (ws' := [_, _, _]) [0, 1, 2] (hs_upnd rfl) rfl) (ci := 7) (q0 := 0) rfl rfl) rfl rfl hl.1 rfl (lv_room (Nat.le_of_ble_eq_true rfl)) dX8_next_10 ⟨Nat.le_of_ble_eq_true rfl, Nat.le_of_ble_eq_true rfl⟩) hP hD hS hA [false, false, false, true, true] [_, _] [_, _, _] rfl [0, 1, 2] rfl [0, 1, 2] (fun u_7 => [_, _, _]) (fun _ => rfl) (hs_upnd rfl) [false, false, false, true, true] (fun u_7 => [_, _, _, _, _]) (fun _ => rfl) (fun u_7 H locs hw_6 hP hD hS => ?_)
    have hw_6 : ∀ j, j < 44 → u_7 j = sf j := hw_6
    have e0a : u_7 0 = nI c0 := (hw_6 0 (by decide)).trans e0
    have e3a : u_7 16 = nI c3 := (hw_6 16 (by decide)).trans e3
    have e4a : u_7 25 = nI c4 := (hw_6 25 (by decide)).trans e4
    have hw_6 : ∀ j, j < 44 → u_7 j = sf j := hw_6
    refine lv_aload_n hx hb dX8_next_13 rfl (lv_at hl 0 rfl) ?_
    refine lv_aload_n hx hb dX8_next_14 rfl (lv_at hl 0 rfl) ?_
    refine va_get (D := D) (ci := 7) (v := .int (nI mo_hm)) (C := RX8) (T := TX8) (N := 32) hx hb hts hiX8 hown hK hP 0 rfl rfl 4 (Nat.le_of_ble_eq_true rfl) fl66 (fun _ h9 => h9) rfl dX8_next_15 ?_
    refine hs_cvM (va_runV (As := [.int (nI mo_hm)]) (rest := []) ⟨hx, hb, hml, hown, hts⟩ (gm_findOrders l D k _ mo mo_st mo_at mo_isKept mo_pe mo_hm mo_draft mo_dp mo_dh mo_toldLines mo_highest mo_tape mo_tl mo_ps mo_fr mo_sort mo_value mo_ft mo_wrongAt mo_row mo_orderMany mo_fo mo_lightest mo_heaviest mo_before mo_justSum mo_toldSum mo_allWays mo_lanes mo_sizes mo_cells mo_torn mo_had u_7 rf bf c3 mo_hm (by first | exact e3a | exact e3) (by omega) (by omega) (by omega)) (cwV 1 hts gX8_next_X8_findOrders rfl rfl rfl ⟨rfl, hq_X8_findOrders⟩ ⟨Nat.le_of_ble_eq_true rfl, Nat.le_of_ble_eq_true rfl⟩) (hs_preV hK hN (hs_subP (w := [_, _, _, _]) hP [0, 2, 3, 4] rfl) (hD.sub (ws' := [_, _, _, _]) [0, 2, 3, 4] (hs_upnd rfl) rfl) (ci := 7) (q0 := 0) rfl rfl) rfl rfl hl.1 rfl (lv_room (Nat.le_of_ble_eq_true rfl)) dX8_next_18 ⟨Nat.le_of_ble_eq_true rfl, Nat.le_of_ble_eq_true rfl⟩) hP hD hS hA [false, true, false, false, false] [_] [_, _, _, _] rfl [0, 1, 2, 3] rfl [0, 1, 2, 3] (fun u_10 => [_, _, _, _]) (fun _ => rfl) (hs_upnd rfl) [false, true, false, false, false] (fun u_10 => [_, _, _, _, _]) (fun _ => rfl) (fun u_10 H locs hw_9 hP hD hS => ?_)
    have hw_9 : u_10.1.2.1 ≤ 3125 := hw_9
    refine lv_aload_n hx hb dX8_next_21 rfl (lv_at hl 0 rfl) ?_
    refine va_get (D := D) (ci := 7) (v := .int u_10.1.1) (C := RX8) (T := TX8) (N := 32) hx hb hts hiX8 hown hK hP 0 rfl rfl 19 (Nat.le_of_ble_eq_true rfl) fl149 (fun _ h9 => h9) rfl dX8_next_22 ?_
    refine lv_istore_n (lv' := [(2, .int u_10.1.1), (0, .ref mo), (1, .int what)]) hx hb dX8_next_25 rfl hl (Nat.le_of_ble_eq_true rfl) rfl (fun ls hl => ?_)
    refine lv_bipush (v := (-4)) hx hb dX8_next_26 hkb_m4 ?_
    refine lv_istore_n (lv' := [(3, .int (-4)), (2, .int u_10.1.1), (0, .ref mo), (1, .int what)]) hx hb dX8_next_28 rfl hl (Nat.le_of_ble_eq_true rfl) rfl (fun ls hl => ?_)
    refine lv_iconst (v := 0) hx hb dX8_next_29 hki_0 ?_
    refine lv_istore (lv' := [(4, .int 0), (3, .int (-4)), (2, .int u_10.1.1), (0, .ref mo), (1, .int what)]) hx hb dX8_next_30 hl (Nat.le_of_ble_eq_true rfl) rfl (fun ls hl => ?_)
    refine hs_while (σ := Int32 × Int32 × Nat) (fun x => x.2.2 ≤ mo_hm) (fun x => mo_hm - x.2.2) (fun x => [oq7 mo mo_st mo_at mo_isKept (nI mo_pe) (nI mo_hm) mo_draft (nI mo_dp) (nI mo_dh) mo_toldLines mo_highest mo_tape (nI mo_tl) (nI mo_ps) (nI mo_fr) mo_sort mo_value (nI mo_ft) mo_wrongAt mo_row u_10.1.1 (nI (u_10.1.2.1)) u_10.1.2.2.1 u_10.1.2.2.2 mo_before mo_justSum mo_toldSum mo_allWays mo_lanes mo_sizes mo_cells mo_torn mo_had, oqI k mo_st 132 (sf), oqI k mo_at 44 (u_7), oqI k mo_row 5 (u_10.2.1), oqI k mo_before 25 (u_10.2.2)]) (fun x => [(4, .int (nI (x.2.2))), (3, .int (x.2.1)), (2, .int (x.1)), (0, .ref mo), (1, .int what)]) ?_ (u_10.1.1, (-4), 0) ?_ hP hD hS hl
    · intro x hI ih32 H locs ls hP hD hS hl
      obtain ⟨few, fo, x4⟩ := x
      try dsimp only at hI
      have hP : va_P D vwCl [_, _, _, _, _] H := hP
      have hD : va_D A [_, _, _, _, _] := hD
      have hl : lv_has ls 8 [(4, .int (nI x4)), (3, .int fo), (2, .int few), (0, .ref mo), (1, .int what)] := hl
      refine lv_iload hx hb dX8_next_32 (lv_at hl 0 rfl) ?_
      refine lv_aload_n hx hb dX8_next_34 rfl (lv_at hl 3 rfl) ?_
      refine va_get (D := D) (ci := 7) (v := .int (nI mo_hm)) (C := RX8) (T := TX8) (N := 32) hx hb hts hiX8 hown hK hP 0 rfl rfl 4 (Nat.le_of_ble_eq_true rfl) fl66 (fun _ h9 => h9) rfl dX8_next_35 ?_
      refine lv_icmp_ge (tgt := 140) hx hb dX8_next_38 rfl (fun c_11 => ?_) (fun c_11 => ?_)
      · have nc_11 : mo_hm ≤ x4 := (nI_leI (a := mo_hm) (b := x4) (by omega) (by omega)).mp c_11
        refine lv_iload_n hx hb dX8_next_140 rfl (lv_at hl 1 rfl) ?_
        refine lv_bipush (v := (-4)) hx hb dX8_next_141 hkb_m4 ?_
        refine lv_icmp_ne (tgt := 151) hx hb dX8_next_143 rfl (fun c_12 => ?_) (fun c_12 => ?_)
        · refine lv_iload_n hx hb dX8_next_151 rfl (lv_at hl 4 rfl) ?_
          refine lv_if_ne (tgt := 159) hx hb dX8_next_152 rfl (fun c_13 => ?_) (fun c_13 => ?_)
          · refine lv_iload_n hx hb dX8_next_159 rfl (lv_at hl 2 rfl) ?_
            exact hs_iret hx hb hr hlocks hK hP hD hS (u_7, ((u_10.1.1, u_10.1.2.1, u_10.1.2.2.1, u_10.1.2.2.2), u_10.2.1, u_10.2.2)) [0, 1, 2, 3, 4] rfl (hs_upnd rfl) dX8_next_160 (trivial)
          · refine lv_iload_n hx hb dX8_next_155 rfl (lv_at hl 1 rfl) ?_
            refine lv_goto (tgt := 160) hx hb dX8_next_156 rfl ?_
            exact hs_iret hx hb hr hlocks hK hP hD hS (u_7, ((u_10.1.1, u_10.1.2.1, u_10.1.2.2.1, u_10.1.2.2.2), u_10.2.1, u_10.2.2)) [0, 1, 2, 3, 4] rfl (hs_upnd rfl) dX8_next_160 (trivial)
        · refine lv_bipush (v := (-4)) hx hb dX8_next_146 hkb_m4 ?_
          refine lv_goto (tgt := 160) hx hb dX8_next_148 rfl ?_
          exact hs_iret hx hb hr hlocks hK hP hD hS (u_7, ((u_10.1.1, u_10.1.2.1, u_10.1.2.2.1, u_10.1.2.2.2), u_10.2.1, u_10.2.2)) [0, 1, 2, 3, 4] rfl (hs_upnd rfl) dX8_next_160 (trivial)
      · have nc_11 : ¬ mo_hm ≤ x4 := fun hq9 => c_11 ((nI_leI (a := mo_hm) (b := x4) (by omega) (by omega)).mpr hq9)
        refine lv_iload hx hb dX8_next_41 (lv_at hl 0 rfl) ?_
        refine lv_iconst (v := 1) hx hb dX8_next_43 hki_1 ?_
        refine lv_iadd hx hb dX8_next_44 ?_
        refine hs_topi (nI (x4 + 1)) (nI_add (x4) (1)) ?_
        refine lv_istore (lv' := [(5, .int (nI (x4 + 1))), (4, .int (nI x4)), (3, .int fo), (2, .int few), (0, .ref mo), (1, .int what)]) hx hb dX8_next_45 hl (Nat.le_of_ble_eq_true rfl) rfl (fun ls hl => ?_)
        refine hs_while (σ := Int32 × Int32 × Nat) (fun x => x.2.2 ≤ mo_hm) (fun x => mo_hm - x.2.2) (fun x => [oq7 mo mo_st mo_at mo_isKept (nI mo_pe) (nI mo_hm) mo_draft (nI mo_dp) (nI mo_dh) mo_toldLines mo_highest mo_tape (nI mo_tl) (nI mo_ps) (nI mo_fr) mo_sort mo_value (nI mo_ft) mo_wrongAt mo_row u_10.1.1 (nI (u_10.1.2.1)) u_10.1.2.2.1 u_10.1.2.2.2 mo_before mo_justSum mo_toldSum mo_allWays mo_lanes mo_sizes mo_cells mo_torn mo_had, oqI k mo_st 132 (sf), oqI k mo_at 44 (u_7), oqI k mo_row 5 (u_10.2.1), oqI k mo_before 25 (u_10.2.2)]) (fun x => [(5, .int (nI (x.2.2))), (4, .int (nI x4)), (3, .int (x.2.1)), (2, .int (x.1)), (0, .ref mo), (1, .int what)]) ?_ (few, fo, x4 + 1) ?_ hP hD hS hl
        · intro x hI ih47 H locs ls hP hD hS hl
          obtain ⟨few2, fo2, x5⟩ := x
          try dsimp only at hI
          have hP : va_P D vwCl [_, _, _, _, _] H := hP
          have hD : va_D A [_, _, _, _, _] := hD
          have hl : lv_has ls 8 [(5, .int (nI x5)), (4, .int (nI x4)), (3, .int fo2), (2, .int few2), (0, .ref mo), (1, .int what)] := hl
          refine lv_iload hx hb dX8_next_47 (lv_at hl 0 rfl) ?_
          refine lv_aload_n hx hb dX8_next_49 rfl (lv_at hl 4 rfl) ?_
          refine va_get (D := D) (ci := 7) (v := .int (nI mo_hm)) (C := RX8) (T := TX8) (N := 32) hx hb hts hiX8 hown hK hP 0 rfl rfl 4 (Nat.le_of_ble_eq_true rfl) fl66 (fun _ h9 => h9) rfl dX8_next_50 ?_
          refine lv_icmp_ge (tgt := 134) hx hb dX8_next_53 rfl (fun c_14 => ?_) (fun c_14 => ?_)
          · have nc_14 : mo_hm ≤ x5 := (nI_leI (a := mo_hm) (b := x5) (by omega) (by omega)).mp c_14
            refine lv_iinc (v := nI (x4 + 1)) (lv' := [(4, .int (nI (x4 + 1))), (5, .int (nI x5)), (3, .int fo2), (2, .int few2), (0, .ref mo), (1, .int what)]) hx hb dX8_next_134 hl (k := 1) rfl (nI_add (x4) 1) (Nat.le_of_ble_eq_true rfl) rfl (fun ls hl => ?_)
            refine lv_goto (tgt := 32) hx hb dX8_next_137 rfl ?_
            exact ih32 (few2, fo2, x4 + 1) (by (try dsimp only); first | omega | (refine ⟨?_, ?_⟩ <;> first | omega | assumption)) (by (try dsimp only); omega) _ _ _ hP hD hS (lv_sub hl [0, 2, 3, 4, 5] rfl)
          · have nc_14 : ¬ mo_hm ≤ x5 := fun hq9 => c_14 ((nI_leI (a := mo_hm) (b := x5) (by omega) (by omega)).mpr hq9)
            refine lv_aload_n hx hb dX8_next_56 rfl (lv_at hl 4 rfl) ?_
            refine va_get (D := D) (ci := 7) (v := .ref mo_before) (C := RX8) (T := TX8) (N := 32) hx hb hts hiX8 hown hK hP 0 rfl rfl 23 (Nat.le_of_ble_eq_true rfl) fl29 (fun _ h9 => h9) rfl dX8_next_57 ?_
            refine lv_iconst (v := 5) hx hb dX8_next_60 hki_5 ?_
            refine lv_iload hx hb dX8_next_61 (lv_at hl 1 rfl) ?_
            refine lv_imul hx hb dX8_next_63 ?_
            refine hs_topi (nI (5 * x4)) (pk_mul (5) (x4)) ?_
            refine lv_iload hx hb dX8_next_64 (lv_at hl 0 rfl) ?_
            refine lv_iadd hx hb dX8_next_66 ?_
            refine hs_topi (nI ((5 * x4) + x5)) (nI_add ((5 * x4)) (x5)) ?_
            refine va_iald hx hb hK hP 4 0 rfl rfl (vp_in_nI (show ((5 * x4) + x5) < 25 by omega) (by decide)) dX8_next_67 ?_
            refine lv_istore (lv' := [(6, .int (u_10.2.2 (nI ((5 * x4) + x5)).toNatClampNeg)), (5, .int (nI x5)), (4, .int (nI x4)), (3, .int fo2), (2, .int few2), (0, .ref mo), (1, .int what)]) hx hb dX8_next_68 hl (Nat.le_of_ble_eq_true rfl) rfl (fun ls hl => ?_)
            refine lv_iload hx hb dX8_next_70 (lv_at hl 0 rfl) ?_
            refine lv_aload_n hx hb dX8_next_72 rfl (lv_at hl 5 rfl) ?_
            refine va_get (D := D) (ci := 7) (v := .int u_10.1.1) (C := RX8) (T := TX8) (N := 32) hx hb hts hiX8 hown hK hP 0 rfl rfl 19 (Nat.le_of_ble_eq_true rfl) fl149 (fun _ h9 => h9) rfl dX8_next_73 ?_
            refine lv_iload hx hb dX8_next_76 (lv_at hl 0 rfl) ?_
            refine lv_isub hx hb dX8_next_78 ?_
            refine lv_icmp_le (tgt := 87) hx hb dX8_next_79 rfl (fun c_15 => ?_) (fun c_15 => ?_)
            · refine lv_aload_n hx hb dX8_next_87 rfl (lv_at hl 5 rfl) ?_
              refine va_get (D := D) (ci := 7) (v := .int u_10.1.1) (C := RX8) (T := TX8) (N := 32) hx hb hts hiX8 hown hK hP 0 rfl rfl 19 (Nat.le_of_ble_eq_true rfl) fl149 (fun _ h9 => h9) rfl dX8_next_88 ?_
              refine lv_iload hx hb dX8_next_91 (lv_at hl 0 rfl) ?_
              refine lv_isub hx hb dX8_next_93 ?_
              refine lv_istore (lv' := [(7, .int (u_10.1.1 - (u_10.2.2 (nI ((5 * x4) + x5)).toNatClampNeg))), (6, .int (u_10.2.2 (nI ((5 * x4) + x5)).toNatClampNeg)), (5, .int (nI x5)), (4, .int (nI x4)), (3, .int fo2), (2, .int few2), (0, .ref mo), (1, .int what)]) hx hb dX8_next_94 hl (Nat.le_of_ble_eq_true rfl) rfl (fun ls hl => ?_)
              refine lv_iload hx hb dX8_next_96 (lv_at hl 0 rfl) ?_
              refine lv_iload_n hx hb dX8_next_98 rfl (lv_at hl 5 rfl) ?_
              refine lv_icmp_ge (tgt := 113) hx hb dX8_next_99 rfl (fun c_16 => ?_) (fun c_16 => ?_)
              · refine lv_iload_n hx hb dX8_next_113 rfl (lv_at hl 4 rfl) ?_
                refine lv_istore_n (lv' := [(3, .int fo2), (7, .int (u_10.1.1 - (u_10.2.2 (nI ((5 * x4) + x5)).toNatClampNeg))), (6, .int (u_10.2.2 (nI ((5 * x4) + x5)).toNatClampNeg)), (5, .int (nI x5)), (4, .int (nI x4)), (2, .int few2), (0, .ref mo), (1, .int what)]) hx hb dX8_next_114 rfl hl (Nat.le_of_ble_eq_true rfl) rfl (fun ls hl => ?_)
                refine lv_iload hx hb dX8_next_115 (lv_at hl 1 rfl) ?_
                refine lv_iload_n hx hb dX8_next_117 rfl (lv_at hl 5 rfl) ?_
                refine lv_icmp_ge (tgt := 126) hx hb dX8_next_118 rfl (fun c_17 => ?_) (fun c_17 => ?_)
                · refine lv_iload_n hx hb dX8_next_126 rfl (lv_at hl 5 rfl) ?_
                  refine lv_istore_n (lv' := [(2, .int few2), (3, .int fo2), (7, .int (u_10.1.1 - (u_10.2.2 (nI ((5 * x4) + x5)).toNatClampNeg))), (6, .int (u_10.2.2 (nI ((5 * x4) + x5)).toNatClampNeg)), (5, .int (nI x5)), (4, .int (nI x4)), (0, .ref mo), (1, .int what)]) hx hb dX8_next_127 rfl hl (Nat.le_of_ble_eq_true rfl) rfl (fun ls hl => ?_)
                  refine lv_iinc (v := nI (x5 + 1)) (lv' := [(5, .int (nI (x5 + 1))), (2, .int few2), (3, .int fo2), (7, .int (u_10.1.1 - (u_10.2.2 (nI ((5 * x4) + x5)).toNatClampNeg))), (6, .int (u_10.2.2 (nI ((5 * x4) + x5)).toNatClampNeg)), (4, .int (nI x4)), (0, .ref mo), (1, .int what)]) hx hb dX8_next_128 hl (k := 4) rfl (nI_add (x5) 1) (Nat.le_of_ble_eq_true rfl) rfl (fun ls hl => ?_)
                  refine lv_goto (tgt := 47) hx hb dX8_next_131 rfl ?_
                  exact ih47 (few2, fo2, x5 + 1) (by (try dsimp only); first | omega | (refine ⟨?_, ?_⟩ <;> first | omega | assumption)) (by (try dsimp only); omega) _ _ _ hP hD hS (lv_sub hl [0, 5, 2, 1, 6, 7] rfl)
                · refine lv_iload hx hb dX8_next_121 (lv_at hl 1 rfl) ?_
                  refine lv_goto (tgt := 127) hx hb dX8_next_123 rfl ?_
                  refine lv_istore_n (lv' := [(2, .int (u_10.1.1 - (u_10.2.2 (nI ((5 * x4) + x5)).toNatClampNeg))), (3, .int fo2), (7, .int (u_10.1.1 - (u_10.2.2 (nI ((5 * x4) + x5)).toNatClampNeg))), (6, .int (u_10.2.2 (nI ((5 * x4) + x5)).toNatClampNeg)), (5, .int (nI x5)), (4, .int (nI x4)), (0, .ref mo), (1, .int what)]) hx hb dX8_next_127 rfl hl (Nat.le_of_ble_eq_true rfl) rfl (fun ls hl => ?_)
                  refine lv_iinc (v := nI (x5 + 1)) (lv' := [(5, .int (nI (x5 + 1))), (2, .int (u_10.1.1 - (u_10.2.2 (nI ((5 * x4) + x5)).toNatClampNeg))), (3, .int fo2), (7, .int (u_10.1.1 - (u_10.2.2 (nI ((5 * x4) + x5)).toNatClampNeg))), (6, .int (u_10.2.2 (nI ((5 * x4) + x5)).toNatClampNeg)), (4, .int (nI x4)), (0, .ref mo), (1, .int what)]) hx hb dX8_next_128 hl (k := 4) rfl (nI_add (x5) 1) (Nat.le_of_ble_eq_true rfl) rfl (fun ls hl => ?_)
                  refine lv_goto (tgt := 47) hx hb dX8_next_131 rfl ?_
                  exact ih47 (u_10.1.1 - (u_10.2.2 (nI ((5 * x4) + x5)).toNatClampNeg), fo2, x5 + 1) (by (try dsimp only); first | omega | (refine ⟨?_, ?_⟩ <;> first | omega | assumption)) (by (try dsimp only); omega) _ _ _ hP hD hS (lv_sub hl [0, 5, 2, 1, 6, 7] rfl)
              · refine lv_bipush (v := 10) hx hb dX8_next_102 hkb_10 ?_
                refine lv_iload hx hb dX8_next_104 (lv_at hl 3 rfl) ?_
                refine lv_imul hx hb dX8_next_106 ?_
                refine hs_topi (nI (10 * x4)) (pk_mul (10) (x4)) ?_
                refine lv_iload hx hb dX8_next_107 (lv_at hl 2 rfl) ?_
                refine lv_iadd hx hb dX8_next_109 ?_
                refine hs_topi (nI ((10 * x4) + x5)) (nI_add ((10 * x4)) (x5)) ?_
                refine lv_goto (tgt := 114) hx hb dX8_next_110 rfl ?_
                refine lv_istore_n (lv' := [(3, .int (nI ((10 * x4) + x5))), (7, .int (u_10.1.1 - (u_10.2.2 (nI ((5 * x4) + x5)).toNatClampNeg))), (6, .int (u_10.2.2 (nI ((5 * x4) + x5)).toNatClampNeg)), (5, .int (nI x5)), (4, .int (nI x4)), (2, .int few2), (0, .ref mo), (1, .int what)]) hx hb dX8_next_114 rfl hl (Nat.le_of_ble_eq_true rfl) rfl (fun ls hl => ?_)
                refine lv_iload hx hb dX8_next_115 (lv_at hl 1 rfl) ?_
                refine lv_iload_n hx hb dX8_next_117 rfl (lv_at hl 5 rfl) ?_
                refine lv_icmp_ge (tgt := 126) hx hb dX8_next_118 rfl (fun c_18 => ?_) (fun c_18 => ?_)
                · refine lv_iload_n hx hb dX8_next_126 rfl (lv_at hl 5 rfl) ?_
                  refine lv_istore_n (lv' := [(2, .int few2), (3, .int (nI ((10 * x4) + x5))), (7, .int (u_10.1.1 - (u_10.2.2 (nI ((5 * x4) + x5)).toNatClampNeg))), (6, .int (u_10.2.2 (nI ((5 * x4) + x5)).toNatClampNeg)), (5, .int (nI x5)), (4, .int (nI x4)), (0, .ref mo), (1, .int what)]) hx hb dX8_next_127 rfl hl (Nat.le_of_ble_eq_true rfl) rfl (fun ls hl => ?_)
                  refine lv_iinc (v := nI (x5 + 1)) (lv' := [(5, .int (nI (x5 + 1))), (2, .int few2), (3, .int (nI ((10 * x4) + x5))), (7, .int (u_10.1.1 - (u_10.2.2 (nI ((5 * x4) + x5)).toNatClampNeg))), (6, .int (u_10.2.2 (nI ((5 * x4) + x5)).toNatClampNeg)), (4, .int (nI x4)), (0, .ref mo), (1, .int what)]) hx hb dX8_next_128 hl (k := 4) rfl (nI_add (x5) 1) (Nat.le_of_ble_eq_true rfl) rfl (fun ls hl => ?_)
                  refine lv_goto (tgt := 47) hx hb dX8_next_131 rfl ?_
                  exact ih47 (few2, nI ((10 * x4) + x5), x5 + 1) (by (try dsimp only); first | omega | (refine ⟨?_, ?_⟩ <;> first | omega | assumption)) (by (try dsimp only); omega) _ _ _ hP hD hS (lv_sub hl [0, 5, 2, 1, 6, 7] rfl)
                · refine lv_iload hx hb dX8_next_121 (lv_at hl 1 rfl) ?_
                  refine lv_goto (tgt := 127) hx hb dX8_next_123 rfl ?_
                  refine lv_istore_n (lv' := [(2, .int (u_10.1.1 - (u_10.2.2 (nI ((5 * x4) + x5)).toNatClampNeg))), (3, .int (nI ((10 * x4) + x5))), (7, .int (u_10.1.1 - (u_10.2.2 (nI ((5 * x4) + x5)).toNatClampNeg))), (6, .int (u_10.2.2 (nI ((5 * x4) + x5)).toNatClampNeg)), (5, .int (nI x5)), (4, .int (nI x4)), (0, .ref mo), (1, .int what)]) hx hb dX8_next_127 rfl hl (Nat.le_of_ble_eq_true rfl) rfl (fun ls hl => ?_)
                  refine lv_iinc (v := nI (x5 + 1)) (lv' := [(5, .int (nI (x5 + 1))), (2, .int (u_10.1.1 - (u_10.2.2 (nI ((5 * x4) + x5)).toNatClampNeg))), (3, .int (nI ((10 * x4) + x5))), (7, .int (u_10.1.1 - (u_10.2.2 (nI ((5 * x4) + x5)).toNatClampNeg))), (6, .int (u_10.2.2 (nI ((5 * x4) + x5)).toNatClampNeg)), (4, .int (nI x4)), (0, .ref mo), (1, .int what)]) hx hb dX8_next_128 hl (k := 4) rfl (nI_add (x5) 1) (Nat.le_of_ble_eq_true rfl) rfl (fun ls hl => ?_)
                  refine lv_goto (tgt := 47) hx hb dX8_next_131 rfl ?_
                  exact ih47 (u_10.1.1 - (u_10.2.2 (nI ((5 * x4) + x5)).toNatClampNeg), nI ((10 * x4) + x5), x5 + 1) (by (try dsimp only); first | omega | (refine ⟨?_, ?_⟩ <;> first | omega | assumption)) (by (try dsimp only); omega) _ _ _ hP hD hS (lv_sub hl [0, 5, 2, 1, 6, 7] rfl)
            · refine lv_iload hx hb dX8_next_82 (lv_at hl 0 rfl) ?_
              refine lv_goto (tgt := 94) hx hb dX8_next_84 rfl ?_
              refine lv_istore (lv' := [(7, .int (u_10.2.2 (nI ((5 * x4) + x5)).toNatClampNeg)), (6, .int (u_10.2.2 (nI ((5 * x4) + x5)).toNatClampNeg)), (5, .int (nI x5)), (4, .int (nI x4)), (3, .int fo2), (2, .int few2), (0, .ref mo), (1, .int what)]) hx hb dX8_next_94 hl (Nat.le_of_ble_eq_true rfl) rfl (fun ls hl => ?_)
              refine lv_iload hx hb dX8_next_96 (lv_at hl 0 rfl) ?_
              refine lv_iload_n hx hb dX8_next_98 rfl (lv_at hl 5 rfl) ?_
              refine lv_icmp_ge (tgt := 113) hx hb dX8_next_99 rfl (fun c_19 => ?_) (fun c_19 => ?_)
              · refine lv_iload_n hx hb dX8_next_113 rfl (lv_at hl 4 rfl) ?_
                refine lv_istore_n (lv' := [(3, .int fo2), (7, .int (u_10.2.2 (nI ((5 * x4) + x5)).toNatClampNeg)), (6, .int (u_10.2.2 (nI ((5 * x4) + x5)).toNatClampNeg)), (5, .int (nI x5)), (4, .int (nI x4)), (2, .int few2), (0, .ref mo), (1, .int what)]) hx hb dX8_next_114 rfl hl (Nat.le_of_ble_eq_true rfl) rfl (fun ls hl => ?_)
                refine lv_iload hx hb dX8_next_115 (lv_at hl 1 rfl) ?_
                refine lv_iload_n hx hb dX8_next_117 rfl (lv_at hl 5 rfl) ?_
                refine lv_icmp_ge (tgt := 126) hx hb dX8_next_118 rfl (fun c_20 => ?_) (fun c_20 => ?_)
                · refine lv_iload_n hx hb dX8_next_126 rfl (lv_at hl 5 rfl) ?_
                  refine lv_istore_n (lv' := [(2, .int few2), (3, .int fo2), (7, .int (u_10.2.2 (nI ((5 * x4) + x5)).toNatClampNeg)), (6, .int (u_10.2.2 (nI ((5 * x4) + x5)).toNatClampNeg)), (5, .int (nI x5)), (4, .int (nI x4)), (0, .ref mo), (1, .int what)]) hx hb dX8_next_127 rfl hl (Nat.le_of_ble_eq_true rfl) rfl (fun ls hl => ?_)
                  refine lv_iinc (v := nI (x5 + 1)) (lv' := [(5, .int (nI (x5 + 1))), (2, .int few2), (3, .int fo2), (7, .int (u_10.2.2 (nI ((5 * x4) + x5)).toNatClampNeg)), (6, .int (u_10.2.2 (nI ((5 * x4) + x5)).toNatClampNeg)), (4, .int (nI x4)), (0, .ref mo), (1, .int what)]) hx hb dX8_next_128 hl (k := 4) rfl (nI_add (x5) 1) (Nat.le_of_ble_eq_true rfl) rfl (fun ls hl => ?_)
                  refine lv_goto (tgt := 47) hx hb dX8_next_131 rfl ?_
                  exact ih47 (few2, fo2, x5 + 1) (by (try dsimp only); first | omega | (refine ⟨?_, ?_⟩ <;> first | omega | assumption)) (by (try dsimp only); omega) _ _ _ hP hD hS (lv_sub hl [0, 5, 2, 1, 6, 7] rfl)
                · refine lv_iload hx hb dX8_next_121 (lv_at hl 1 rfl) ?_
                  refine lv_goto (tgt := 127) hx hb dX8_next_123 rfl ?_
                  refine lv_istore_n (lv' := [(2, .int (u_10.2.2 (nI ((5 * x4) + x5)).toNatClampNeg)), (3, .int fo2), (7, .int (u_10.2.2 (nI ((5 * x4) + x5)).toNatClampNeg)), (6, .int (u_10.2.2 (nI ((5 * x4) + x5)).toNatClampNeg)), (5, .int (nI x5)), (4, .int (nI x4)), (0, .ref mo), (1, .int what)]) hx hb dX8_next_127 rfl hl (Nat.le_of_ble_eq_true rfl) rfl (fun ls hl => ?_)
                  refine lv_iinc (v := nI (x5 + 1)) (lv' := [(5, .int (nI (x5 + 1))), (2, .int (u_10.2.2 (nI ((5 * x4) + x5)).toNatClampNeg)), (3, .int fo2), (7, .int (u_10.2.2 (nI ((5 * x4) + x5)).toNatClampNeg)), (6, .int (u_10.2.2 (nI ((5 * x4) + x5)).toNatClampNeg)), (4, .int (nI x4)), (0, .ref mo), (1, .int what)]) hx hb dX8_next_128 hl (k := 4) rfl (nI_add (x5) 1) (Nat.le_of_ble_eq_true rfl) rfl (fun ls hl => ?_)
                  refine lv_goto (tgt := 47) hx hb dX8_next_131 rfl ?_
                  exact ih47 (u_10.2.2 (nI ((5 * x4) + x5)).toNatClampNeg, fo2, x5 + 1) (by (try dsimp only); first | omega | (refine ⟨?_, ?_⟩ <;> first | omega | assumption)) (by (try dsimp only); omega) _ _ _ hP hD hS (lv_sub hl [0, 5, 2, 1, 6, 7] rfl)
              · refine lv_bipush (v := 10) hx hb dX8_next_102 hkb_10 ?_
                refine lv_iload hx hb dX8_next_104 (lv_at hl 3 rfl) ?_
                refine lv_imul hx hb dX8_next_106 ?_
                refine hs_topi (nI (10 * x4)) (pk_mul (10) (x4)) ?_
                refine lv_iload hx hb dX8_next_107 (lv_at hl 2 rfl) ?_
                refine lv_iadd hx hb dX8_next_109 ?_
                refine hs_topi (nI ((10 * x4) + x5)) (nI_add ((10 * x4)) (x5)) ?_
                refine lv_goto (tgt := 114) hx hb dX8_next_110 rfl ?_
                refine lv_istore_n (lv' := [(3, .int (nI ((10 * x4) + x5))), (7, .int (u_10.2.2 (nI ((5 * x4) + x5)).toNatClampNeg)), (6, .int (u_10.2.2 (nI ((5 * x4) + x5)).toNatClampNeg)), (5, .int (nI x5)), (4, .int (nI x4)), (2, .int few2), (0, .ref mo), (1, .int what)]) hx hb dX8_next_114 rfl hl (Nat.le_of_ble_eq_true rfl) rfl (fun ls hl => ?_)
                refine lv_iload hx hb dX8_next_115 (lv_at hl 1 rfl) ?_
                refine lv_iload_n hx hb dX8_next_117 rfl (lv_at hl 5 rfl) ?_
                refine lv_icmp_ge (tgt := 126) hx hb dX8_next_118 rfl (fun c_21 => ?_) (fun c_21 => ?_)
                · refine lv_iload_n hx hb dX8_next_126 rfl (lv_at hl 5 rfl) ?_
                  refine lv_istore_n (lv' := [(2, .int few2), (3, .int (nI ((10 * x4) + x5))), (7, .int (u_10.2.2 (nI ((5 * x4) + x5)).toNatClampNeg)), (6, .int (u_10.2.2 (nI ((5 * x4) + x5)).toNatClampNeg)), (5, .int (nI x5)), (4, .int (nI x4)), (0, .ref mo), (1, .int what)]) hx hb dX8_next_127 rfl hl (Nat.le_of_ble_eq_true rfl) rfl (fun ls hl => ?_)
                  refine lv_iinc (v := nI (x5 + 1)) (lv' := [(5, .int (nI (x5 + 1))), (2, .int few2), (3, .int (nI ((10 * x4) + x5))), (7, .int (u_10.2.2 (nI ((5 * x4) + x5)).toNatClampNeg)), (6, .int (u_10.2.2 (nI ((5 * x4) + x5)).toNatClampNeg)), (4, .int (nI x4)), (0, .ref mo), (1, .int what)]) hx hb dX8_next_128 hl (k := 4) rfl (nI_add (x5) 1) (Nat.le_of_ble_eq_true rfl) rfl (fun ls hl => ?_)
                  refine lv_goto (tgt := 47) hx hb dX8_next_131 rfl ?_
                  exact ih47 (few2, nI ((10 * x4) + x5), x5 + 1) (by (try dsimp only); first | omega | (refine ⟨?_, ?_⟩ <;> first | omega | assumption)) (by (try dsimp only); omega) _ _ _ hP hD hS (lv_sub hl [0, 5, 2, 1, 6, 7] rfl)
                · refine lv_iload hx hb dX8_next_121 (lv_at hl 1 rfl) ?_
                  refine lv_goto (tgt := 127) hx hb dX8_next_123 rfl ?_
                  refine lv_istore_n (lv' := [(2, .int (u_10.2.2 (nI ((5 * x4) + x5)).toNatClampNeg)), (3, .int (nI ((10 * x4) + x5))), (7, .int (u_10.2.2 (nI ((5 * x4) + x5)).toNatClampNeg)), (6, .int (u_10.2.2 (nI ((5 * x4) + x5)).toNatClampNeg)), (5, .int (nI x5)), (4, .int (nI x4)), (0, .ref mo), (1, .int what)]) hx hb dX8_next_127 rfl hl (Nat.le_of_ble_eq_true rfl) rfl (fun ls hl => ?_)
                  refine lv_iinc (v := nI (x5 + 1)) (lv' := [(5, .int (nI (x5 + 1))), (2, .int (u_10.2.2 (nI ((5 * x4) + x5)).toNatClampNeg)), (3, .int (nI ((10 * x4) + x5))), (7, .int (u_10.2.2 (nI ((5 * x4) + x5)).toNatClampNeg)), (6, .int (u_10.2.2 (nI ((5 * x4) + x5)).toNatClampNeg)), (4, .int (nI x4)), (0, .ref mo), (1, .int what)]) hx hb dX8_next_128 hl (k := 4) rfl (nI_add (x5) 1) (Nat.le_of_ble_eq_true rfl) rfl (fun ls hl => ?_)
                  refine lv_goto (tgt := 47) hx hb dX8_next_131 rfl ?_
                  exact ih47 (u_10.2.2 (nI ((5 * x4) + x5)).toNatClampNeg, nI ((10 * x4) + x5), x5 + 1) (by (try dsimp only); first | omega | (refine ⟨?_, ?_⟩ <;> first | omega | assumption)) (by (try dsimp only); omega) _ _ _ hP hD hS (lv_sub hl [0, 5, 2, 1, 6, 7] rfl)
        · (try dsimp only); first | omega | (refine ⟨?_, ?_⟩ <;> first | omega | assumption)
    · (try dsimp only); first | omega | (refine ⟨?_, ?_⟩ <;> first | omega | assumption)
  · refine lv_iconst (v := (-1)) hx hb dX8_next_7 hki_m1 ?_
    exact hs_iret hx hb hr hlocks hK hP hD hS (af, ((mo_orderMany, mo_fo, mo_lightest, mo_heaviest), rf, bf)) [0, 1, 2, 3, 4] rfl (hs_upnd rfl) dX8_next_8 (trivial)

theorem hs_rem64 {x y : Int64} (h : ¬ y = 0) : (x - x / y * y).toInt.natAbs < y.toInt.natAbs := by
  have hy : y.toInt ≠ 0 := fun e => h (Int64.toInt_inj.mp (by rw [e]; rfl))
  have hyl := Int64.le_toInt y
  have hyu := Int64.toInt_lt y
  have e1 : (x - x / y * y).toInt = (x.toInt.tmod y.toInt).bmod (2 ^ 64) := by
    rw [Int64.toInt_sub, Int64.toInt_mul, Int64.toInt_div, Int.tmod_def]
    simp [Int.mul_comm]
  have e2 : (x.toInt.tmod y.toInt).natAbs = x.toInt.natAbs % y.toInt.natAbs := Int.natAbs_tmod _ _
  have e3 : (x.toInt.tmod y.toInt).natAbs < y.toInt.natAbs := by
    rw [e2]
    exact Nat.mod_lt _ (by omega)
  rw [e1, Int.bmod_eq_of_le (by omega) (by omega)]
  exact e3
theorem hs_l3q (a b c : Int32) : (a.toInt64 + b.toInt64 + c.toInt64).toInt = a.toInt + b.toInt + c.toInt := by
  have a1 := Int32.le_toInt a
  have a2 := Int32.toInt_lt a
  have b1 := Int32.le_toInt b
  have b2 := Int32.toInt_lt b
  have c1 := Int32.le_toInt c
  have c2 := Int32.toInt_lt c
  rw [Int64.toInt_add, Int64.toInt_add, Int32.toInt_toInt64, Int32.toInt_toInt64, Int32.toInt_toInt64]
  simp only [Int.bmod_add_bmod]
  exact Int.bmod_eq_of_le (by omega) (by omega)
theorem hs_rdix {f : Int32} {i c : Nat} (hi : i ≤ 20) (hc : c ≤ 120) (h0 : 0 ≤ f.toInt + 2 * (i : Int)) (h1 : f.toInt + 2 * (i : Int) < 40) : ∃ j : Nat, (j : Int) = f.toInt + 2 * (i : Int) ∧ nI c + f + nI (2 * i) = nI (c + j) := by
  refine ⟨(f.toInt + 2 * (i : Int)).toNat, by omega, Int32.toInt_inj.mp ?_⟩
  rw [Int32.toInt_add, Int32.toInt_add, nI_toInt (by omega), nI_toInt (by omega), nI_toInt (by omega)]
  simp only [Int.bmod_add_bmod]
  rw [Int.bmod_eq_of_le (by omega) (by omega)]
  omega
theorem hs_rdok {f : Int32} {i c z : Nat} (hi : i ≤ 20) (hc : c ≤ 2) (hz : z ≤ 40) (h0 : ¬ lg_cmp (f.toInt64 + (nI (2 * i)).toInt64 + (nI c).toInt64) 0 < 0) (h1 : lg_cmp (f.toInt64 + (nI (2 * i)).toInt64 + (nI c).toInt64) (nI z).toInt64 < 0) : 0 ≤ f.toInt + 2 * (i : Int) + c ∧ f.toInt + 2 * (i : Int) + c < z := by
  rw [lg_cmp_lt, Int64.lt_iff_toInt_lt, hs_l3q, nI_toInt (by omega), nI_toInt (by omega)] at h0 h1
  rw [Int32.toInt_toInt64, nI_toInt (by omega)] at h1
  have z0 : (0 : Int64).toInt = 0 := rfl
  rw [z0] at h0
  constructor <;> omega

set_option maxHeartbeats 4000000 in
set_option maxRecDepth 100000 in
theorem gm_common (l : Launch) (D : va_G) (k : Nat → ClassId) (sz : Nat) (a : Int64) (b : Int64) (hab : ¬ a = 0 ∨ ¬ b = 0) : ML l yX8_common wsX8_common ({ frames := 0, cells := 0, slots := 0, locals := 0 }) D k [.long a, .long b] [] sz (fun (r : Int64) (u : Unit) => ¬ r = 0) (fun (u : Unit) => []) := by
  refine Met.ofW (cc := cX8_common) (maxL := 10) (ret := (some .long)) hpn_X8 rfl ?_
  intro p e s m args below meth c s₁ B hml hv
  obtain ⟨rfl, hsz, hP, hK, hD0, hN⟩ := hv
  have hx := B.exec
  have hb := B.bytes
  have hr := B.returns
  have hlocks := B.notSynchronized
  have hts := atoms_spec (ws := wsX8_common) B.pre
  have hown := findClass_of_methodNamed B.named
  have hown : s.vm.findClass RX8 = some m.cls := hown
  subst hsz
  have hD := hD0.self (sz := s.heap.size)
  generalize hAe : va_A [] s.heap.size = A at hD ⊢
  have hA : ∀ q : Nat, s.heap.size ≤ q → A q := fun q h => by rw [← hAe]; exact Or.inr h
  have hS : va_S A s.heap s.heap [] := va_S.rf
  have hl := lv_entry ([.long a, .long b]) (n := 10) (Nat.le_of_ble_eq_true rfl)
  rw [lg_entry_eq]
  generalize (lg_sl ([.long a, .long b]) ++ List.replicate (10 - (lg_sl ([.long a, .long b])).length) Slot.unset).toArray = ls at hl ⊢
  have hl : lv_has ls 10 [(0, .long a), (2, .long b)] := hl
  have hP : va_P D vwCl [] s.heap := hP
  refine lv_lload_n hx hb dX8_common_0 rfl (lv_at hl 0 rfl) ?_
  refine lv_lstore (lv' := [(4, .long a), (0, .long a), (2, .long b)]) hx hb dX8_common_1 hl (Nat.le_of_ble_eq_true rfl) rfl (fun ls hl => ?_)
  refine lv_lload_n hx hb dX8_common_3 rfl (lv_at hl 2 rfl) ?_
  refine lv_lstore (lv' := [(6, .long b), (4, .long a), (0, .long a), (2, .long b)]) hx hb dX8_common_4 hl (Nat.le_of_ble_eq_true rfl) rfl (fun ls hl => ?_)
  refine hs_while (σ := Int64 × Int64) (fun x => ¬ x.1 = 0 ∨ ¬ x.2 = 0) (fun x => x.2.toInt.natAbs) (fun x => []) (fun x => [(6, .long (x.2)), (4, .long (x.1)), (0, .long a), (2, .long b)]) ?_ (a, b) ?_ hP hD hS hl
  · intro x hI ih6 H locs ls hP hD hS hl
    obtain ⟨xx, yy⟩ := x
    try dsimp only at hI
    have hP : va_P D vwCl [] H := hP
    have hD : va_D A [] := hD
    have hl : lv_has ls 10 [(6, .long yy), (4, .long xx), (0, .long a), (2, .long b)] := hl
    refine lv_lload hx hb dX8_common_6 (lv_at hl 0 rfl) ?_
    refine lv_lconst (v := 0) hx hb dX8_common_8 (by decide) ?_
    refine W.lcmp hx hb dX8_common_9 ?_
    refine lv_if_eq (tgt := 31) hx hb dX8_common_10 rfl (fun c_1 => ?_) (fun c_1 => ?_)
    · refine lv_lload hx hb dX8_common_31 (lv_at hl 1 rfl) ?_
      exact hs_lret hx hb hr hlocks hK hP hD hS () [] rfl (hs_upnd rfl) dX8_common_33 (hI.resolve_right (fun h => h ((lg_cmp_eq _ _).mp c_1)))
    · refine lv_lload hx hb dX8_common_13 (lv_at hl 1 rfl) ?_
      refine lv_lload hx hb dX8_common_15 (lv_at hl 0 rfl) ?_
      refine lv_lrem hx hb dX8_common_17 (fun h => c_1 ((lg_cmp_eq _ _).mpr h)) ?_
      refine lv_lstore (lv' := [(8, .long (xx - xx / yy * yy)), (6, .long yy), (4, .long xx), (0, .long a), (2, .long b)]) hx hb dX8_common_18 hl (Nat.le_of_ble_eq_true rfl) rfl (fun ls hl => ?_)
      refine lv_lload hx hb dX8_common_20 (lv_at hl 1 rfl) ?_
      refine lv_lstore (lv' := [(4, .long yy), (8, .long (xx - xx / yy * yy)), (6, .long yy), (0, .long a), (2, .long b)]) hx hb dX8_common_22 hl (Nat.le_of_ble_eq_true rfl) rfl (fun ls hl => ?_)
      refine lv_lload hx hb dX8_common_24 (lv_at hl 1 rfl) ?_
      refine lv_lstore (lv' := [(6, .long (xx - xx / yy * yy)), (4, .long yy), (8, .long (xx - xx / yy * yy)), (0, .long a), (2, .long b)]) hx hb dX8_common_26 hl (Nat.le_of_ble_eq_true rfl) rfl (fun ls hl => ?_)
      refine lv_goto (tgt := 6) hx hb dX8_common_28 rfl ?_
      exact ih6 (yy, xx - xx / yy * yy) (by (try dsimp only); exact Or.inl (fun h => c_1 ((lg_cmp_eq _ _).mpr h))) (by (try dsimp only); exact hs_rem64 (fun h => c_1 ((lg_cmp_eq _ _).mpr h))) _ _ _ hP hD hS (lv_sub hl [0, 1, 3, 4] rfl)
  · (try dsimp only); exact hab

set_option maxHeartbeats 4000000 in
set_option maxRecDepth 100000 in
theorem gm_told (l : Launch) (D : va_G) (k : Nat → ClassId) (sz : Nat) (a : Int64) (b : Int64) (what : Int32) (hb0 : ¬ b = 0) : ML l yX8_told wsX8_told ({ frames := 1, cells := 0, slots := 0, locals := 29 }) D k [.long a, .long b, .int what] [] sz (fun (r : Int64) (u : Unit) => True) (fun (u : Unit) => []) := by
  refine Met.ofW (cc := cX8_told) (maxL := 7) (ret := (some .long)) hpn_X8 rfl ?_
  intro p e s m args below meth c s₁ B hml hv
  obtain ⟨rfl, hsz, hP, hK, hD0, hN⟩ := hv
  have hx := B.exec
  have hb := B.bytes
  have hr := B.returns
  have hlocks := B.notSynchronized
  have hts := atoms_spec (ws := wsX8_told) B.pre
  have hown := findClass_of_methodNamed B.named
  have hown : s.vm.findClass RX8 = some m.cls := hown
  subst hsz
  have hD := hD0.self (sz := s.heap.size)
  generalize hAe : va_A [] s.heap.size = A at hD ⊢
  have hA : ∀ q : Nat, s.heap.size ≤ q → A q := fun q h => by rw [← hAe]; exact Or.inr h
  have hS : va_S A s.heap s.heap [] := va_S.rf
  have hl := lv_entry ([.long a, .long b, .int what]) (n := 7) (Nat.le_of_ble_eq_true rfl)
  rw [lg_entry_eq]
  generalize (lg_sl ([.long a, .long b, .int what]) ++ List.replicate (7 - (lg_sl ([.long a, .long b, .int what])).length) Slot.unset).toArray = ls at hl ⊢
  have hl : lv_has ls 7 [(0, .long a), (2, .long b), (4, .int what)] := hl
  have hP : va_P D vwCl [] s.heap := hP
  refine lv_lload_n hx hb dX8_told_0 rfl (lv_at hl 1 rfl) ?_
  refine lv_lload_n hx hb dX8_told_1 rfl (lv_at hl 0 rfl) ?_
  refine hs_pl (va_runS (As := [.long b, .long a]) (rest := []) ⟨hx, hb, hml, hown, hts⟩ (gm_common l D k _ b a (Or.inl (by assumption))) (va_cwS 2 hts gX8_told_X8_common rfl rfl rfl hq_X8_common ⟨Nat.le_of_ble_eq_true rfl, Nat.le_of_ble_eq_true rfl⟩) (hs_preS hK hN (hs_subP (w := []) hP [] rfl) (hD.sub (ws' := []) [] rfl rfl)) rfl rfl hl.1 rfl (lv_room (Nat.le_of_ble_eq_true rfl)) dX8_told_2 ⟨Nat.le_of_ble_eq_true rfl, Nat.le_of_ble_eq_true rfl⟩) hP hD hS hA (fun r_1 u_3 H locs hw_2 hP hS => ?_)
  refine lv_lstore (lv' := [(5, .long r_1), (0, .long a), (2, .long b), (4, .int what)]) hx hb dX8_told_5 hl (Nat.le_of_ble_eq_true rfl) rfl (fun ls hl => ?_)
  refine lv_iload hx hb dX8_told_7 (lv_at hl 3 rfl) ?_
  refine lv_if_ne (tgt := 19) hx hb dX8_told_9 rfl (fun c_4 => ?_) (fun c_4 => ?_)
  · refine lv_lload_n hx hb dX8_told_19 rfl (lv_at hl 2 rfl) ?_
    refine lv_lload hx hb dX8_told_20 (lv_at hl 0 rfl) ?_
    refine lv_ldiv hx hb dX8_told_22 hw_2 ?_
    exact hs_lret hx hb hr hlocks hK hP hD hS () [] rfl (hs_upnd rfl) dX8_told_23 (trivial)
  · refine lv_lload_n hx hb dX8_told_12 rfl (lv_at hl 1 rfl) ?_
    refine lv_lload hx hb dX8_told_13 (lv_at hl 0 rfl) ?_
    refine lv_ldiv hx hb dX8_told_15 hw_2 ?_
    refine lv_goto (tgt := 23) hx hb dX8_told_16 rfl ?_
    exact hs_lret hx hb hr hlocks hK hP hD hS () [] rfl (hs_upnd rfl) dX8_told_23 (trivial)

theorem hs_ways {n : Nat} (h : n ≤ 4) : ¬ (hspw 10 n).toInt64 = 0 := by
  rcases (show n = 0 ∨ n = 1 ∨ n = 2 ∨ n = 3 ∨ n = 4 by omega) with rfl | rfl | rfl | rfl | rfl <;> decide

set_option maxHeartbeats 4000000 in
set_option maxRecDepth 100000 in
theorem gm_findCourt (l : Launch) (D : va_G) (k : Nat → ClassId) (sz : Nat) (mo : Nat) (mo_st : Nat) (mo_at : Nat) (mo_isKept : Nat) (mo_pe : Nat) (mo_hm : Nat) (mo_draft : Nat) (mo_dp : Nat) (mo_dh : Nat) (mo_toldLines : Int32) (mo_highest : Int32) (mo_tape : Nat) (mo_tl : Nat) (mo_ps : Nat) (mo_fr : Nat) (mo_sort : Int32) (mo_value : Int32) (mo_ft : Nat) (mo_wrongAt : Int32) (mo_row : Nat) (mo_orderMany : Int32) (mo_fo : Nat) (mo_lightest : Int32) (mo_heaviest : Int32) (mo_before : Nat) (mo_justSum : Int64) (mo_toldSum : Int64) (mo_allWays : Int64) (mo_lanes : Nat) (mo_sizes : Nat) (mo_cells : Nat) (mo_torn : Int32) (mo_had : Nat) (sf : Nat → Int32) (c0 : Nat) (c3 : Nat) (c4 : Nat) (af : Nat → Int32) (v : Int32) (kk : Int32) (e0 : sf 0 = nI c0) (h0 : c0 ≤ 8) (h02 : 2 ≤ c0) (e3 : sf 16 = nI c3) (h3 : c3 ≤ 8) (e4 : sf 25 = nI c4) (h4 : c4 ≤ 6) (hpe : mo_pe ≤ 4) (hm2 : 2 ≤ mo_hm) (hm5 : mo_hm ≤ 5) : MV l yX8_findCourt wsX8_findCourt ({ frames := 5, cells := 0, slots := 0, locals := 116 }) D k [.ref mo, .int v, .int kk] [oq7 mo mo_st mo_at mo_isKept (nI mo_pe) (nI mo_hm) mo_draft (nI mo_dp) (nI mo_dh) mo_toldLines mo_highest mo_tape (nI mo_tl) (nI mo_ps) (nI mo_fr) mo_sort mo_value (nI mo_ft) mo_wrongAt mo_row mo_orderMany (nI mo_fo) mo_lightest mo_heaviest mo_before mo_justSum mo_toldSum mo_allWays mo_lanes mo_sizes mo_cells mo_torn mo_had, oqI k mo_st 132 (sf), oqI k mo_at 44 (af)] sz (fun (u : (Nat → Int32) × Int64 × Int64 × Int64) => ¬ u.2.2.2 = 0) (fun (u : (Nat → Int32) × Int64 × Int64 × Int64) => [oq7 mo mo_st mo_at mo_isKept (nI mo_pe) (nI mo_hm) mo_draft (nI mo_dp) (nI mo_dh) mo_toldLines mo_highest mo_tape (nI mo_tl) (nI mo_ps) (nI mo_fr) mo_sort mo_value (nI mo_ft) mo_wrongAt mo_row mo_orderMany (nI mo_fo) mo_lightest mo_heaviest mo_before u.2.1 u.2.2.1 u.2.2.2 mo_lanes mo_sizes mo_cells mo_torn mo_had, oqI k mo_st 132 (sf), oqI k mo_at 44 (u.1)]) := by
  refine Met.ofW (cc := cX8_findCourt) (maxL := 8) (ret := none) hpn_X8 rfl ?_
  intro p e s m args below meth c s₁ B hml hv
  obtain ⟨rfl, hsz, hP, hK, hD0, hN⟩ := hv
  have hx := B.exec
  have hb := B.bytes
  have hr := B.returns
  have hlocks := B.notSynchronized
  have hts := atoms_spec (ws := wsX8_findCourt) B.pre
  have hown := findClass_of_methodNamed B.named
  have hown : s.vm.findClass RX8 = some m.cls := hown
  have hiX8 : ∀ w ∈ u_ws RX8 TX8 32, w ∈ wsX8_findCourt := fun w9 hw9 => List.mem_cons_of_mem _ (igX8 w9 hw9)
  have fl249 := hts (.fieldLink RX8 249 "HalfScalesModel" "justSum" "J") (List.mem_cons_of_mem _ (hs_inG 4 104 rfl rfl))
  have fl253 := hts (.fieldLink RX8 253 "HalfScalesModel" "toldSum" "J") (List.mem_cons_of_mem _ (hs_inG 4 105 rfl rfl))
  have fl63 := hts (.fieldLink RX8 63 "HalfScalesModel" "people" "I") (List.mem_cons_of_mem _ (hs_inG 4 83 rfl rfl))
  have fl256 := hts (.fieldLink RX8 256 "HalfScalesModel" "allWays" "J") (List.mem_cons_of_mem _ (hs_inG 4 106 rfl rfl))
  have hpw : 2 ^ mo_pe ≤ 16 := Nat.le_trans (Nat.pow_le_pow_right (n := 2) (by decide) hpe) (by decide)
  subst hsz
  have hD := hD0.self (sz := s.heap.size)
  generalize hAe : va_A [oq7 mo mo_st mo_at mo_isKept (nI mo_pe) (nI mo_hm) mo_draft (nI mo_dp) (nI mo_dh) mo_toldLines mo_highest mo_tape (nI mo_tl) (nI mo_ps) (nI mo_fr) mo_sort mo_value (nI mo_ft) mo_wrongAt mo_row mo_orderMany (nI mo_fo) mo_lightest mo_heaviest mo_before mo_justSum mo_toldSum mo_allWays mo_lanes mo_sizes mo_cells mo_torn mo_had, oqI k mo_st 132 (sf), oqI k mo_at 44 (af)] s.heap.size = A at hD ⊢
  have hA : ∀ q : Nat, s.heap.size ≤ q → A q := fun q h => by rw [← hAe]; exact Or.inr h
  have hS : va_S A s.heap s.heap [] := va_S.rf
  have hl := lv_entry ([.ref mo, .int v, .int kk]) (n := 8) (Nat.le_of_ble_eq_true rfl)
  rw [lg_entry_eq]
  generalize (lg_sl ([.ref mo, .int v, .int kk]) ++ List.replicate (8 - (lg_sl ([.ref mo, .int v, .int kk])).length) Slot.unset).toArray = ls at hl ⊢
  have hl : lv_has ls 8 [(0, .ref mo), (1, .int v), (2, .int kk)] := hl
  have hP : va_P D vwCl [oq7 mo mo_st mo_at mo_isKept (nI mo_pe) (nI mo_hm) mo_draft (nI mo_dp) (nI mo_dh) mo_toldLines mo_highest mo_tape (nI mo_tl) (nI mo_ps) (nI mo_fr) mo_sort mo_value (nI mo_ft) mo_wrongAt mo_row mo_orderMany (nI mo_fo) mo_lightest mo_heaviest mo_before mo_justSum mo_toldSum mo_allWays mo_lanes mo_sizes mo_cells mo_torn mo_had, oqI k mo_st 132 (sf), oqI k mo_at 44 (af)] s.heap := hP
  refine lv_aload_n hx hb dX8_findCourt_0 rfl (lv_at hl 0 rfl) ?_
  refine hs_cvM (va_runV (As := []) (rest := []) ⟨hx, hb, hml, hown, hts⟩ (gm_starts l D k _ mo mo_st mo_at mo_isKept mo_pe mo_hm mo_draft mo_dp mo_dh mo_toldLines mo_highest mo_tape mo_tl mo_ps mo_fr mo_sort mo_value mo_ft mo_wrongAt mo_row mo_orderMany mo_fo mo_lightest mo_heaviest mo_before mo_justSum mo_toldSum mo_allWays mo_lanes mo_sizes mo_cells mo_torn mo_had sf af) (cwV 0 hts gX8_findCourt_X8_starts rfl rfl rfl ⟨rfl, hq_X8_starts⟩ ⟨Nat.le_of_ble_eq_true rfl, Nat.le_of_ble_eq_true rfl⟩) (hs_preV hK hN (hs_subP (w := [_, _, _]) hP [0, 1, 2] rfl) (hD.sub (ws' := [_, _, _]) [0, 1, 2] (hs_upnd rfl) rfl) (ci := 7) (q0 := 0) rfl rfl) rfl rfl hl.1 rfl (lv_room (Nat.le_of_ble_eq_true rfl)) dX8_findCourt_1 ⟨Nat.le_of_ble_eq_true rfl, Nat.le_of_ble_eq_true rfl⟩) hP hD hS hA [false, false, false] [] [_, _, _] rfl [0, 1, 2] rfl [0, 1, 2] (fun u_3 => [_, _, _]) (fun _ => rfl) (hs_upnd rfl) [false, false, false] (fun u_3 => [_, _, _]) (fun _ => rfl) (fun u_3 H locs hw_2 hP hD hS => ?_)
  have hw_2 : ∀ j, j < 44 → u_3 j = sf j := hw_2
  have e0a : u_3 0 = nI c0 := (hw_2 0 (by decide)).trans e0
  have e3a : u_3 16 = nI c3 := (hw_2 16 (by decide)).trans e3
  have e4a : u_3 25 = nI c4 := (hw_2 25 (by decide)).trans e4
  have hw_2 : ∀ j, j < 44 → u_3 j = sf j := hw_2
  refine lv_aload_n hx hb dX8_findCourt_4 rfl (lv_at hl 0 rfl) ?_
  refine lv_iload_n hx hb dX8_findCourt_5 rfl (lv_at hl 2 rfl) ?_
  refine hs_ciM (va_runV (As := [.int kk]) (rest := []) ⟨hx, hb, hml, hown, hts⟩ (gm_justTo l D k _ mo mo_st mo_at mo_isKept mo_pe mo_hm mo_draft mo_dp mo_dh mo_toldLines mo_highest mo_tape mo_tl mo_ps mo_fr mo_sort mo_value mo_ft mo_wrongAt mo_row mo_orderMany mo_fo mo_lightest mo_heaviest mo_before mo_justSum mo_toldSum mo_allWays mo_lanes mo_sizes mo_cells mo_torn mo_had u_3 c0 kk (by first | exact e0a | exact e0) (by omega) (by omega)) (cwV 1 hts gX8_findCourt_X8_justTo rfl rfl rfl ⟨rfl, hq_X8_justTo⟩ ⟨Nat.le_of_ble_eq_true rfl, Nat.le_of_ble_eq_true rfl⟩) (hs_preV hK hN (hs_subP (w := [_, _]) hP [0, 2] rfl) (hD.sub (ws' := [_, _]) [0, 2] (hs_upnd rfl) rfl) (ci := 7) (q0 := 0) rfl rfl) rfl rfl hl.1 rfl (lv_room (Nat.le_of_ble_eq_true rfl)) dX8_findCourt_6 ⟨Nat.le_of_ble_eq_true rfl, Nat.le_of_ble_eq_true rfl⟩) hP hD hS hA [false, true, false] [_] [_, _] rfl [0, 1] rfl [0, 1] (fun u_6 => [_, _]) (fun _ => rfl) (hs_upnd rfl) [false, true, false] (fun u_6 => [_, _, _]) (fun _ => rfl) (fun r_4 u_6 H locs hw_5 hP hD hS => ?_)
  refine lv_istore_n (lv' := [(3, .int r_4), (0, .ref mo), (1, .int v), (2, .int kk)]) hx hb dX8_findCourt_9 rfl hl (Nat.le_of_ble_eq_true rfl) rfl (fun ls hl => ?_)
  refine lv_aload_n hx hb dX8_findCourt_10 rfl (lv_at hl 1 rfl) ?_
  refine lv_lconst (v := 0) hx hb dX8_findCourt_11 (by decide) ?_
  refine va_put (D := D) (ci := 7) (v := .long 0) (ty := .long) (C := RX8) (T := TX8) (N := 32) hx hb hts hiX8 tyX8 tyX8_ok nmX8 hown hK hP hD hS 0 rfl rfl 24 (Nat.le_of_ble_eq_true rfl) fl249 (fun _ h9 => h9) rfl (by decide +kernel) rfl rfl (Nat.le_of_ble_eq_true rfl) dX8_findCourt_12 (fun H locs hP hD hS => ?_)
  have hP : va_P D vwCl [oq7 mo mo_st mo_at mo_isKept (nI mo_pe) (nI mo_hm) mo_draft (nI mo_dp) (nI mo_dh) mo_toldLines mo_highest mo_tape (nI mo_tl) (nI mo_ps) (nI mo_fr) mo_sort mo_value (nI mo_ft) mo_wrongAt mo_row mo_orderMany (nI mo_fo) mo_lightest mo_heaviest mo_before 0 mo_toldSum mo_allWays mo_lanes mo_sizes mo_cells mo_torn mo_had, _, _] H := hP
  have hD : va_D A [oq7 mo mo_st mo_at mo_isKept (nI mo_pe) (nI mo_hm) mo_draft (nI mo_dp) (nI mo_dh) mo_toldLines mo_highest mo_tape (nI mo_tl) (nI mo_ps) (nI mo_fr) mo_sort mo_value (nI mo_ft) mo_wrongAt mo_row mo_orderMany (nI mo_fo) mo_lightest mo_heaviest mo_before 0 mo_toldSum mo_allWays mo_lanes mo_sizes mo_cells mo_torn mo_had, _, _] := hD
  refine lv_aload_n hx hb dX8_findCourt_15 rfl (lv_at hl 1 rfl) ?_
  refine lv_lconst (v := 0) hx hb dX8_findCourt_16 (by decide) ?_
  refine va_put (D := D) (ci := 7) (v := .long 0) (ty := .long) (C := RX8) (T := TX8) (N := 32) hx hb hts hiX8 tyX8 tyX8_ok nmX8 hown hK hP hD hS 0 rfl rfl 25 (Nat.le_of_ble_eq_true rfl) fl253 (fun _ h9 => h9) rfl (by decide +kernel) rfl rfl (Nat.le_of_ble_eq_true rfl) dX8_findCourt_17 (fun H locs hP hD hS => ?_)
  have hP : va_P D vwCl [oq7 mo mo_st mo_at mo_isKept (nI mo_pe) (nI mo_hm) mo_draft (nI mo_dp) (nI mo_dh) mo_toldLines mo_highest mo_tape (nI mo_tl) (nI mo_ps) (nI mo_fr) mo_sort mo_value (nI mo_ft) mo_wrongAt mo_row mo_orderMany (nI mo_fo) mo_lightest mo_heaviest mo_before 0 0 mo_allWays mo_lanes mo_sizes mo_cells mo_torn mo_had, _, _] H := hP
  have hD : va_D A [oq7 mo mo_st mo_at mo_isKept (nI mo_pe) (nI mo_hm) mo_draft (nI mo_dp) (nI mo_dh) mo_toldLines mo_highest mo_tape (nI mo_tl) (nI mo_ps) (nI mo_fr) mo_sort mo_value (nI mo_ft) mo_wrongAt mo_row mo_orderMany (nI mo_fo) mo_lightest mo_heaviest mo_before 0 0 mo_allWays mo_lanes mo_sizes mo_cells mo_torn mo_had, _, _] := hD
  refine lv_aload_n hx hb dX8_findCourt_20 rfl (lv_at hl 1 rfl) ?_
  refine lv_bipush (v := 10) hx hb dX8_findCourt_21 hkb_10 ?_
  refine lv_aload_n hx hb dX8_findCourt_23 rfl (lv_at hl 1 rfl) ?_
  refine va_get (D := D) (ci := 7) (v := .int (nI mo_pe)) (C := RX8) (T := TX8) (N := 32) hx hb hts hiX8 hown hK hP 0 rfl rfl 3 (Nat.le_of_ble_eq_true rfl) fl63 (fun _ h9 => h9) rfl dX8_findCourt_24 ?_
  refine hs_pi (va_runS (As := [.int 10, .int (nI mo_pe)]) (rest := [.ref mo]) ⟨hx, hb, hml, hown, hts⟩ (gm_power l D k _ 10 mo_pe (by omega)) (va_cwS 2 hts gX8_findCourt_X8_power rfl rfl rfl hq_X8_power ⟨Nat.le_of_ble_eq_true rfl, Nat.le_of_ble_eq_true rfl⟩) (hs_preS hK hN (hs_subP (w := []) hP [] rfl) (hD.sub (ws' := []) [] rfl rfl)) rfl rfl hl.1 rfl (lv_room (Nat.le_of_ble_eq_true rfl)) dX8_findCourt_27 ⟨Nat.le_of_ble_eq_true rfl, Nat.le_of_ble_eq_true rfl⟩) hP hD hS hA (fun r_7 u_9 H locs hw_8 hP hS => ?_)
  refine hs_topi (hspw 10 mo_pe) hw_8 ?_
  refine lv_i2l hx hb dX8_findCourt_30 rfl ?_
  refine va_put (D := D) (ci := 7) (v := .long (((hspw 10 mo_pe) : Int32).toInt64)) (ty := .long) (C := RX8) (T := TX8) (N := 32) hx hb hts hiX8 tyX8 tyX8_ok nmX8 hown hK hP hD hS 0 rfl rfl 26 (Nat.le_of_ble_eq_true rfl) fl256 (fun _ h9 => h9) rfl (by decide +kernel) rfl rfl (Nat.le_of_ble_eq_true rfl) dX8_findCourt_31 (fun H locs hP hD hS => ?_)
  have hP : va_P D vwCl [oq7 mo mo_st mo_at mo_isKept (nI mo_pe) (nI mo_hm) mo_draft (nI mo_dp) (nI mo_dh) mo_toldLines mo_highest mo_tape (nI mo_tl) (nI mo_ps) (nI mo_fr) mo_sort mo_value (nI mo_ft) mo_wrongAt mo_row mo_orderMany (nI mo_fo) mo_lightest mo_heaviest mo_before 0 0 (((hspw 10 mo_pe) : Int32).toInt64) mo_lanes mo_sizes mo_cells mo_torn mo_had, _, _] H := hP
  have hD : va_D A [oq7 mo mo_st mo_at mo_isKept (nI mo_pe) (nI mo_hm) mo_draft (nI mo_dp) (nI mo_dh) mo_toldLines mo_highest mo_tape (nI mo_tl) (nI mo_ps) (nI mo_fr) mo_sort mo_value (nI mo_ft) mo_wrongAt mo_row mo_orderMany (nI mo_fo) mo_lightest mo_heaviest mo_before 0 0 (((hspw 10 mo_pe) : Int32).toInt64) mo_lanes mo_sizes mo_cells mo_torn mo_had, _, _] := hD
  refine lv_iconst (v := 0) hx hb dX8_findCourt_34 hki_0 ?_
  refine lv_istore (lv' := [(4, .int 0), (3, .int r_4), (0, .ref mo), (1, .int v), (2, .int kk)]) hx hb dX8_findCourt_35 hl (Nat.le_of_ble_eq_true rfl) rfl (fun ls hl => ?_)
  refine hs_while (σ := Nat × Int64 × Int64) (fun x => x.1 ≤ 2 ^ mo_pe) (fun x => 2 ^ mo_pe - x.1) (fun x => [oq7 mo mo_st mo_at mo_isKept (nI mo_pe) (nI mo_hm) mo_draft (nI mo_dp) (nI mo_dh) mo_toldLines mo_highest mo_tape (nI mo_tl) (nI mo_ps) (nI mo_fr) mo_sort mo_value (nI mo_ft) mo_wrongAt mo_row mo_orderMany (nI mo_fo) mo_lightest mo_heaviest mo_before (x.2.1) (x.2.2) (((hspw 10 mo_pe) : Int32).toInt64) mo_lanes mo_sizes mo_cells mo_torn mo_had, oqI k mo_st 132 (sf), oqI k mo_at 44 (u_3)]) (fun x => [(4, .int (nI (x.1))), (3, .int r_4), (0, .ref mo), (1, .int v), (2, .int kk)]) ?_ (0, 0, 0) ?_ hP hD hS hl
  · intro x hI ih37 H locs ls hP hD hS hl
    obtain ⟨lie, js, ts⟩ := x
    try dsimp only at hI
    have hP : va_P D vwCl [oq7 mo mo_st mo_at mo_isKept (nI mo_pe) (nI mo_hm) mo_draft (nI mo_dp) (nI mo_dh) mo_toldLines mo_highest mo_tape (nI mo_tl) (nI mo_ps) (nI mo_fr) mo_sort mo_value (nI mo_ft) mo_wrongAt mo_row mo_orderMany (nI mo_fo) mo_lightest mo_heaviest mo_before js ts (((hspw 10 mo_pe) : Int32).toInt64) mo_lanes mo_sizes mo_cells mo_torn mo_had, _, _] H := hP
    have hD : va_D A [oq7 mo mo_st mo_at mo_isKept (nI mo_pe) (nI mo_hm) mo_draft (nI mo_dp) (nI mo_dh) mo_toldLines mo_highest mo_tape (nI mo_tl) (nI mo_ps) (nI mo_fr) mo_sort mo_value (nI mo_ft) mo_wrongAt mo_row mo_orderMany (nI mo_fo) mo_lightest mo_heaviest mo_before js ts (((hspw 10 mo_pe) : Int32).toInt64) mo_lanes mo_sizes mo_cells mo_torn mo_had, _, _] := hD
    have hl : lv_has ls 8 [(4, .int (nI lie)), (3, .int r_4), (0, .ref mo), (1, .int v), (2, .int kk)] := hl
    refine lv_iload hx hb dX8_findCourt_37 (lv_at hl 0 rfl) ?_
    refine lv_iconst (v := 1) hx hb dX8_findCourt_39 hki_1 ?_
    refine lv_aload_n hx hb dX8_findCourt_40 rfl (lv_at hl 2 rfl) ?_
    refine va_get (D := D) (ci := 7) (v := .int (nI mo_pe)) (C := RX8) (T := TX8) (N := 32) hx hb hts hiX8 hown hK hP 0 rfl rfl 3 (Nat.le_of_ble_eq_true rfl) fl63 (fun _ h9 => h9) rfl dX8_findCourt_41 ?_
    refine lv_ishl hx hb dX8_findCourt_44 ?_
    refine hs_topi (nI (2 ^ mo_pe)) (hs_shl (by omega)) ?_
    refine lv_icmp_ge (tgt := 151) hx hb dX8_findCourt_45 rfl (fun c_10 => ?_) (fun c_10 => ?_)
    · have nc_10 : (2 ^ mo_pe) ≤ lie := (nI_leI (a := (2 ^ mo_pe)) (b := lie) (by omega) (by omega)).mp c_10
      exact hs_vret hx hb hr hlocks hK hP hD hS (u_3, js, ts, ((hspw 10 mo_pe) : Int32).toInt64) [0, 1, 2] rfl (hs_upnd rfl) dX8_findCourt_151 (hs_ways hpe)
    · have nc_10 : ¬ (2 ^ mo_pe) ≤ lie := fun hq9 => c_10 ((nI_leI (a := (2 ^ mo_pe)) (b := lie) (by omega) (by omega)).mpr hq9)
      refine lv_lconst (v := 1) hx hb dX8_findCourt_48 (by decide) ?_
      refine lv_lstore (lv' := [(5, .long 1), (4, .int (nI lie)), (3, .int r_4), (0, .ref mo), (1, .int v), (2, .int kk)]) hx hb dX8_findCourt_49 hl (Nat.le_of_ble_eq_true rfl) rfl (fun ls hl => ?_)
      refine lv_iconst (v := 0) hx hb dX8_findCourt_51 hki_0 ?_
      refine lv_istore (lv' := [(7, .int 0), (5, .long 1), (4, .int (nI lie)), (3, .int r_4), (0, .ref mo), (1, .int v), (2, .int kk)]) hx hb dX8_findCourt_52 hl (Nat.le_of_ble_eq_true rfl) rfl (fun ls hl => ?_)
      refine hs_while (σ := Int64 × Nat) (fun x => x.2 ≤ mo_pe) (fun x => mo_pe - x.2) (fun x => [oq7 mo mo_st mo_at mo_isKept (nI mo_pe) (nI mo_hm) mo_draft (nI mo_dp) (nI mo_dh) mo_toldLines mo_highest mo_tape (nI mo_tl) (nI mo_ps) (nI mo_fr) mo_sort mo_value (nI mo_ft) mo_wrongAt mo_row mo_orderMany (nI mo_fo) mo_lightest mo_heaviest mo_before js ts (((hspw 10 mo_pe) : Int32).toInt64) mo_lanes mo_sizes mo_cells mo_torn mo_had, oqI k mo_st 132 (sf), oqI k mo_at 44 (u_3)]) (fun x => [(7, .int (nI (x.2))), (5, .long (x.1)), (4, .int (nI lie)), (3, .int r_4), (0, .ref mo), (1, .int v), (2, .int kk)]) ?_ (1, 0) ?_ hP hD hS hl
      · intro x hI ih54 H locs ls hP hD hS hl
        obtain ⟨wy, px⟩ := x
        try dsimp only at hI
        have hP : va_P D vwCl [_, _, _] H := hP
        have hD : va_D A [_, _, _] := hD
        have hl : lv_has ls 8 [(7, .int (nI px)), (5, .long wy), (4, .int (nI lie)), (3, .int r_4), (0, .ref mo), (1, .int v), (2, .int kk)] := hl
        refine lv_iload hx hb dX8_findCourt_54 (lv_at hl 0 rfl) ?_
        refine lv_aload_n hx hb dX8_findCourt_56 rfl (lv_at hl 4 rfl) ?_
        refine va_get (D := D) (ci := 7) (v := .int (nI mo_pe)) (C := RX8) (T := TX8) (N := 32) hx hb hts hiX8 hown hK hP 0 rfl rfl 3 (Nat.le_of_ble_eq_true rfl) fl63 (fun _ h9 => h9) rfl dX8_findCourt_57 ?_
        refine lv_icmp_ge (tgt := 95) hx hb dX8_findCourt_60 rfl (fun c_11 => ?_) (fun c_11 => ?_)
        · have nc_11 : mo_pe ≤ px := (nI_leI (a := mo_pe) (b := px) (by omega) (by omega)).mp c_11
          refine lv_iload_n hx hb dX8_findCourt_95 rfl (lv_at hl 3 rfl) ?_
          refine lv_iload hx hb dX8_findCourt_96 (lv_at hl 2 rfl) ?_
          refine lv_ixor hx hb dX8_findCourt_98 ?_
          refine hs_pi (va_runS (As := [.int (r_4 ^^^ (nI lie))]) (rest := []) ⟨hx, hb, hml, hown, hts⟩ (gm_bitsOf l D k _ (r_4 ^^^ (nI lie))) (va_cwS 1 hts gX8_findCourt_X8_bitsOf rfl rfl rfl hq_X8_bitsOf ⟨Nat.le_of_ble_eq_true rfl, Nat.le_of_ble_eq_true rfl⟩) (hs_preS hK hN (hs_subP (w := []) hP [] rfl) (hD.sub (ws' := []) [] rfl rfl)) rfl rfl hl.1 rfl (lv_room (Nat.le_of_ble_eq_true rfl)) dX8_findCourt_99 ⟨Nat.le_of_ble_eq_true rfl, Nat.le_of_ble_eq_true rfl⟩) hP hD hS hA (fun r_12 u_14 H locs hw_13 hP hS => ?_)
          refine lv_istore (lv' := [(7, .int r_12), (5, .long wy), (4, .int (nI lie)), (3, .int r_4), (0, .ref mo), (1, .int v), (2, .int kk)]) hx hb dX8_findCourt_102 hl (Nat.le_of_ble_eq_true rfl) rfl (fun ls hl => ?_)
          refine lv_aload_n hx hb dX8_findCourt_104 rfl (lv_at hl 4 rfl) ?_
          refine lv_dup hx hb dX8_findCourt_105 rfl ?_
          refine va_get (D := D) (ci := 7) (v := .long js) (C := RX8) (T := TX8) (N := 32) hx hb hts hiX8 hown hK hP 0 rfl rfl 24 (Nat.le_of_ble_eq_true rfl) fl249 (fun _ h9 => h9) rfl dX8_findCourt_106 ?_
          refine lv_iconst (v := 2) hx hb dX8_findCourt_109 hki_2 ?_
          refine lv_iload hx hb dX8_findCourt_110 (lv_at hl 0 rfl) ?_
          refine lv_imul hx hb dX8_findCourt_112 ?_
          refine lv_aload_n hx hb dX8_findCourt_113 rfl (lv_at hl 4 rfl) ?_
          refine va_get (D := D) (ci := 7) (v := .int (nI mo_pe)) (C := RX8) (T := TX8) (N := 32) hx hb hts hiX8 hown hK hP 0 rfl rfl 3 (Nat.le_of_ble_eq_true rfl) fl63 (fun _ h9 => h9) rfl dX8_findCourt_114 ?_
          refine lv_icmp_le (tgt := 125) hx hb dX8_findCourt_117 rfl (fun c_15 => ?_) (fun c_15 => ?_)
          · refine lv_lconst (v := 0) hx hb dX8_findCourt_125 (by decide) ?_
            refine lv_ladd hx hb dX8_findCourt_126 ?_
            refine va_put (D := D) (ci := 7) (v := .long (js + 0)) (ty := .long) (C := RX8) (T := TX8) (N := 32) hx hb hts hiX8 tyX8 tyX8_ok nmX8 hown hK hP hD hS 0 rfl rfl 24 (Nat.le_of_ble_eq_true rfl) fl249 (fun _ h9 => h9) rfl (by decide +kernel) rfl rfl (Nat.le_of_ble_eq_true rfl) dX8_findCourt_127 (fun H locs hP hD hS => ?_)
            have hP : va_P D vwCl [oq7 mo mo_st mo_at mo_isKept (nI mo_pe) (nI mo_hm) mo_draft (nI mo_dp) (nI mo_dh) mo_toldLines mo_highest mo_tape (nI mo_tl) (nI mo_ps) (nI mo_fr) mo_sort mo_value (nI mo_ft) mo_wrongAt mo_row mo_orderMany (nI mo_fo) mo_lightest mo_heaviest mo_before (js + 0) ts (((hspw 10 mo_pe) : Int32).toInt64) mo_lanes mo_sizes mo_cells mo_torn mo_had, _, _] H := hP
            have hD : va_D A [oq7 mo mo_st mo_at mo_isKept (nI mo_pe) (nI mo_hm) mo_draft (nI mo_dp) (nI mo_dh) mo_toldLines mo_highest mo_tape (nI mo_tl) (nI mo_ps) (nI mo_fr) mo_sort mo_value (nI mo_ft) mo_wrongAt mo_row mo_orderMany (nI mo_fo) mo_lightest mo_heaviest mo_before (js + 0) ts (((hspw 10 mo_pe) : Int32).toInt64) mo_lanes mo_sizes mo_cells mo_torn mo_had, _, _] := hD
            refine lv_aload_n hx hb dX8_findCourt_130 rfl (lv_at hl 4 rfl) ?_
            refine lv_dup hx hb dX8_findCourt_131 rfl ?_
            refine va_get (D := D) (ci := 7) (v := .long ts) (C := RX8) (T := TX8) (N := 32) hx hb hts hiX8 hown hK hP 0 rfl rfl 25 (Nat.le_of_ble_eq_true rfl) fl253 (fun _ h9 => h9) rfl dX8_findCourt_132 ?_
            refine lv_lload hx hb dX8_findCourt_135 (lv_at hl 1 rfl) ?_
            refine lv_iload hx hb dX8_findCourt_137 (lv_at hl 0 rfl) ?_
            refine lv_i2l hx hb dX8_findCourt_139 rfl ?_
            refine lv_lmul hx hb dX8_findCourt_140 ?_
            refine lv_ladd hx hb dX8_findCourt_141 ?_
            refine va_put (D := D) (ci := 7) (v := .long (ts + (wy * (((r_12) : Int32).toInt64)))) (ty := .long) (C := RX8) (T := TX8) (N := 32) hx hb hts hiX8 tyX8 tyX8_ok nmX8 hown hK hP hD hS 0 rfl rfl 25 (Nat.le_of_ble_eq_true rfl) fl253 (fun _ h9 => h9) rfl (by decide +kernel) rfl rfl (Nat.le_of_ble_eq_true rfl) dX8_findCourt_142 (fun H locs hP hD hS => ?_)
            have hP : va_P D vwCl [oq7 mo mo_st mo_at mo_isKept (nI mo_pe) (nI mo_hm) mo_draft (nI mo_dp) (nI mo_dh) mo_toldLines mo_highest mo_tape (nI mo_tl) (nI mo_ps) (nI mo_fr) mo_sort mo_value (nI mo_ft) mo_wrongAt mo_row mo_orderMany (nI mo_fo) mo_lightest mo_heaviest mo_before (js + 0) (ts + (wy * (((r_12) : Int32).toInt64))) (((hspw 10 mo_pe) : Int32).toInt64) mo_lanes mo_sizes mo_cells mo_torn mo_had, _, _] H := hP
            have hD : va_D A [oq7 mo mo_st mo_at mo_isKept (nI mo_pe) (nI mo_hm) mo_draft (nI mo_dp) (nI mo_dh) mo_toldLines mo_highest mo_tape (nI mo_tl) (nI mo_ps) (nI mo_fr) mo_sort mo_value (nI mo_ft) mo_wrongAt mo_row mo_orderMany (nI mo_fo) mo_lightest mo_heaviest mo_before (js + 0) (ts + (wy * (((r_12) : Int32).toInt64))) (((hspw 10 mo_pe) : Int32).toInt64) mo_lanes mo_sizes mo_cells mo_torn mo_had, _, _] := hD
            refine lv_iinc (v := nI (lie + 1)) (lv' := [(4, .int (nI (lie + 1))), (7, .int r_12), (5, .long wy), (3, .int r_4), (0, .ref mo), (1, .int v), (2, .int kk)]) hx hb dX8_findCourt_145 hl (k := 2) rfl (nI_add (lie) 1) (Nat.le_of_ble_eq_true rfl) rfl (fun ls hl => ?_)
            refine lv_goto (tgt := 37) hx hb dX8_findCourt_148 rfl ?_
            exact ih37 (lie + 1, js + 0, ts + (wy * (((r_12) : Int32).toInt64))) (by (try dsimp only); first | omega | (refine ⟨?_, ?_⟩ <;> first | omega | assumption)) (by (try dsimp only); omega) _ _ _ hP hD hS (lv_sub hl [0, 3, 4, 5, 6] rfl)
          · refine lv_lload hx hb dX8_findCourt_120 (lv_at hl 1 rfl) ?_
            refine lv_goto (tgt := 126) hx hb dX8_findCourt_122 rfl ?_
            refine lv_ladd hx hb dX8_findCourt_126 ?_
            refine va_put (D := D) (ci := 7) (v := .long (js + wy)) (ty := .long) (C := RX8) (T := TX8) (N := 32) hx hb hts hiX8 tyX8 tyX8_ok nmX8 hown hK hP hD hS 0 rfl rfl 24 (Nat.le_of_ble_eq_true rfl) fl249 (fun _ h9 => h9) rfl (by decide +kernel) rfl rfl (Nat.le_of_ble_eq_true rfl) dX8_findCourt_127 (fun H locs hP hD hS => ?_)
            have hP : va_P D vwCl [oq7 mo mo_st mo_at mo_isKept (nI mo_pe) (nI mo_hm) mo_draft (nI mo_dp) (nI mo_dh) mo_toldLines mo_highest mo_tape (nI mo_tl) (nI mo_ps) (nI mo_fr) mo_sort mo_value (nI mo_ft) mo_wrongAt mo_row mo_orderMany (nI mo_fo) mo_lightest mo_heaviest mo_before (js + wy) ts (((hspw 10 mo_pe) : Int32).toInt64) mo_lanes mo_sizes mo_cells mo_torn mo_had, _, _] H := hP
            have hD : va_D A [oq7 mo mo_st mo_at mo_isKept (nI mo_pe) (nI mo_hm) mo_draft (nI mo_dp) (nI mo_dh) mo_toldLines mo_highest mo_tape (nI mo_tl) (nI mo_ps) (nI mo_fr) mo_sort mo_value (nI mo_ft) mo_wrongAt mo_row mo_orderMany (nI mo_fo) mo_lightest mo_heaviest mo_before (js + wy) ts (((hspw 10 mo_pe) : Int32).toInt64) mo_lanes mo_sizes mo_cells mo_torn mo_had, _, _] := hD
            refine lv_aload_n hx hb dX8_findCourt_130 rfl (lv_at hl 4 rfl) ?_
            refine lv_dup hx hb dX8_findCourt_131 rfl ?_
            refine va_get (D := D) (ci := 7) (v := .long ts) (C := RX8) (T := TX8) (N := 32) hx hb hts hiX8 hown hK hP 0 rfl rfl 25 (Nat.le_of_ble_eq_true rfl) fl253 (fun _ h9 => h9) rfl dX8_findCourt_132 ?_
            refine lv_lload hx hb dX8_findCourt_135 (lv_at hl 1 rfl) ?_
            refine lv_iload hx hb dX8_findCourt_137 (lv_at hl 0 rfl) ?_
            refine lv_i2l hx hb dX8_findCourt_139 rfl ?_
            refine lv_lmul hx hb dX8_findCourt_140 ?_
            refine lv_ladd hx hb dX8_findCourt_141 ?_
            refine va_put (D := D) (ci := 7) (v := .long (ts + (wy * (((r_12) : Int32).toInt64)))) (ty := .long) (C := RX8) (T := TX8) (N := 32) hx hb hts hiX8 tyX8 tyX8_ok nmX8 hown hK hP hD hS 0 rfl rfl 25 (Nat.le_of_ble_eq_true rfl) fl253 (fun _ h9 => h9) rfl (by decide +kernel) rfl rfl (Nat.le_of_ble_eq_true rfl) dX8_findCourt_142 (fun H locs hP hD hS => ?_)
            have hP : va_P D vwCl [oq7 mo mo_st mo_at mo_isKept (nI mo_pe) (nI mo_hm) mo_draft (nI mo_dp) (nI mo_dh) mo_toldLines mo_highest mo_tape (nI mo_tl) (nI mo_ps) (nI mo_fr) mo_sort mo_value (nI mo_ft) mo_wrongAt mo_row mo_orderMany (nI mo_fo) mo_lightest mo_heaviest mo_before (js + wy) (ts + (wy * (((r_12) : Int32).toInt64))) (((hspw 10 mo_pe) : Int32).toInt64) mo_lanes mo_sizes mo_cells mo_torn mo_had, _, _] H := hP
            have hD : va_D A [oq7 mo mo_st mo_at mo_isKept (nI mo_pe) (nI mo_hm) mo_draft (nI mo_dp) (nI mo_dh) mo_toldLines mo_highest mo_tape (nI mo_tl) (nI mo_ps) (nI mo_fr) mo_sort mo_value (nI mo_ft) mo_wrongAt mo_row mo_orderMany (nI mo_fo) mo_lightest mo_heaviest mo_before (js + wy) (ts + (wy * (((r_12) : Int32).toInt64))) (((hspw 10 mo_pe) : Int32).toInt64) mo_lanes mo_sizes mo_cells mo_torn mo_had, _, _] := hD
            refine lv_iinc (v := nI (lie + 1)) (lv' := [(4, .int (nI (lie + 1))), (7, .int r_12), (5, .long wy), (3, .int r_4), (0, .ref mo), (1, .int v), (2, .int kk)]) hx hb dX8_findCourt_145 hl (k := 2) rfl (nI_add (lie) 1) (Nat.le_of_ble_eq_true rfl) rfl (fun ls hl => ?_)
            refine lv_goto (tgt := 37) hx hb dX8_findCourt_148 rfl ?_
            exact ih37 (lie + 1, js + wy, ts + (wy * (((r_12) : Int32).toInt64))) (by (try dsimp only); first | omega | (refine ⟨?_, ?_⟩ <;> first | omega | assumption)) (by (try dsimp only); omega) _ _ _ hP hD hS (lv_sub hl [0, 3, 4, 5, 6] rfl)
        · have nc_11 : ¬ mo_pe ≤ px := fun hq9 => c_11 ((nI_leI (a := mo_pe) (b := px) (by omega) (by omega)).mpr hq9)
          refine lv_lload hx hb dX8_findCourt_63 (lv_at hl 1 rfl) ?_
          refine lv_iload hx hb dX8_findCourt_65 (lv_at hl 2 rfl) ?_
          refine lv_iload hx hb dX8_findCourt_67 (lv_at hl 0 rfl) ?_
          refine lv_ishr hx hb dX8_findCourt_69 ?_
          refine lv_iconst (v := 1) hx hb dX8_findCourt_70 hki_1 ?_
          refine lv_iand hx hb dX8_findCourt_71 ?_
          refine lv_iconst (v := 1) hx hb dX8_findCourt_72 hki_1 ?_
          refine lv_icmp_ne (tgt := 81) hx hb dX8_findCourt_73 rfl (fun c_16 => ?_) (fun c_16 => ?_)
          · refine lv_bipush (v := 10) hx hb dX8_findCourt_81 hkb_10 ?_
            refine lv_iload_n hx hb dX8_findCourt_83 rfl (lv_at hl 5 rfl) ?_
            refine lv_isub hx hb dX8_findCourt_84 ?_
            refine lv_i2l hx hb dX8_findCourt_85 rfl ?_
            refine lv_lmul hx hb dX8_findCourt_86 ?_
            refine lv_lstore (lv' := [(5, .long (wy * (((10 - v) : Int32).toInt64))), (7, .int (nI px)), (4, .int (nI lie)), (3, .int r_4), (0, .ref mo), (1, .int v), (2, .int kk)]) hx hb dX8_findCourt_87 hl (Nat.le_of_ble_eq_true rfl) rfl (fun ls hl => ?_)
            refine lv_iinc (v := nI (px + 1)) (lv' := [(7, .int (nI (px + 1))), (5, .long (wy * (((10 - v) : Int32).toInt64))), (4, .int (nI lie)), (3, .int r_4), (0, .ref mo), (1, .int v), (2, .int kk)]) hx hb dX8_findCourt_89 hl (k := 1) rfl (nI_add (px) 1) (Nat.le_of_ble_eq_true rfl) rfl (fun ls hl => ?_)
            refine lv_goto (tgt := 54) hx hb dX8_findCourt_92 rfl ?_
            exact ih54 (wy * (((10 - v) : Int32).toInt64), px + 1) (by (try dsimp only); first | omega | (refine ⟨?_, ?_⟩ <;> first | omega | assumption)) (by (try dsimp only); omega) _ _ _ hP hD hS (lv_sub hl [0, 1, 2, 3, 4, 5, 6] rfl)
          · refine lv_iload_n hx hb dX8_findCourt_76 rfl (lv_at hl 5 rfl) ?_
            refine lv_i2l hx hb dX8_findCourt_77 rfl ?_
            refine lv_goto (tgt := 86) hx hb dX8_findCourt_78 rfl ?_
            refine lv_lmul hx hb dX8_findCourt_86 ?_
            refine lv_lstore (lv' := [(5, .long (wy * (((v) : Int32).toInt64))), (7, .int (nI px)), (4, .int (nI lie)), (3, .int r_4), (0, .ref mo), (1, .int v), (2, .int kk)]) hx hb dX8_findCourt_87 hl (Nat.le_of_ble_eq_true rfl) rfl (fun ls hl => ?_)
            refine lv_iinc (v := nI (px + 1)) (lv' := [(7, .int (nI (px + 1))), (5, .long (wy * (((v) : Int32).toInt64))), (4, .int (nI lie)), (3, .int r_4), (0, .ref mo), (1, .int v), (2, .int kk)]) hx hb dX8_findCourt_89 hl (k := 1) rfl (nI_add (px) 1) (Nat.le_of_ble_eq_true rfl) rfl (fun ls hl => ?_)
            refine lv_goto (tgt := 54) hx hb dX8_findCourt_92 rfl ?_
            exact ih54 (wy * (((v) : Int32).toInt64), px + 1) (by (try dsimp only); first | omega | (refine ⟨?_, ?_⟩ <;> first | omega | assumption)) (by (try dsimp only); omega) _ _ _ hP hD hS (lv_sub hl [0, 1, 2, 3, 4, 5, 6] rfl)
      · (try dsimp only); first | omega | (refine ⟨?_, ?_⟩ <;> first | omega | assumption)
  · (try dsimp only); exact Nat.zero_le _

set_option maxHeartbeats 4000000 in
set_option maxRecDepth 100000 in
theorem gq_luck (l : Launch) (D : va_G) (k : Nat → ClassId) (sz : Nat) (mo : Nat) (mo_st : Nat) (mo_at : Nat) (mo_isKept : Nat) (mo_pe : Nat) (mo_hm : Nat) (mo_draft : Nat) (mo_dp : Nat) (mo_dh : Nat) (mo_toldLines : Int32) (mo_highest : Int32) (mo_tape : Nat) (mo_tl : Nat) (mo_ps : Nat) (mo_fr : Nat) (mo_sort : Int32) (mo_value : Int32) (mo_ft : Nat) (mo_wrongAt : Int32) (mo_row : Nat) (mo_orderMany : Int32) (mo_fo : Nat) (mo_lightest : Int32) (mo_heaviest : Int32) (mo_before : Nat) (mo_justSum : Int64) (mo_toldSum : Int64) (mo_allWays : Int64) (mo_lanes : Nat) (mo_sizes : Nat) (mo_cells : Nat) (mo_torn : Int32) (mo_had : Nat) (sf : Nat → Int32) (c0 : Nat) (c3 : Nat) (c4 : Nat) (af : Nat → Int32) (v : Int32) (kk : Int32) (what : Int32) (e0 : sf 0 = nI c0) (h0 : c0 ≤ 8) (h02 : 2 ≤ c0) (e3 : sf 16 = nI c3) (h3 : c3 ≤ 8) (e4 : sf 25 = nI c4) (h4 : c4 ≤ 6) (hpe : mo_pe ≤ 4) (hm2 : 2 ≤ mo_hm) (hm5 : mo_hm ≤ 5) : ML l yX8_luck wsX8_luck ({ frames := 6, cells := 0, slots := 0, locals := 143 }) D k [.ref mo, .int v, .int kk, .int what] [oq7 mo mo_st mo_at mo_isKept (nI mo_pe) (nI mo_hm) mo_draft (nI mo_dp) (nI mo_dh) mo_toldLines mo_highest mo_tape (nI mo_tl) (nI mo_ps) (nI mo_fr) mo_sort mo_value (nI mo_ft) mo_wrongAt mo_row mo_orderMany (nI mo_fo) mo_lightest mo_heaviest mo_before mo_justSum mo_toldSum mo_allWays mo_lanes mo_sizes mo_cells mo_torn mo_had, oqI k mo_st 132 (sf), oqI k mo_at 44 (af)] sz (fun (r : Int64) (u : (Nat → Int32) × Int64 × Int64 × Int64) => True) (fun (u : (Nat → Int32) × Int64 × Int64 × Int64) => [oq7 mo mo_st mo_at mo_isKept (nI mo_pe) (nI mo_hm) mo_draft (nI mo_dp) (nI mo_dh) mo_toldLines mo_highest mo_tape (nI mo_tl) (nI mo_ps) (nI mo_fr) mo_sort mo_value (nI mo_ft) mo_wrongAt mo_row mo_orderMany (nI mo_fo) mo_lightest mo_heaviest mo_before u.2.1 u.2.2.1 u.2.2.2 mo_lanes mo_sizes mo_cells mo_torn mo_had, oqI k mo_st 132 (sf), oqI k mo_at 44 (u.1)]) := by
  refine Met.ofW (cc := cX8_luck) (maxL := 4) (ret := (some .long)) hpn_X8 rfl ?_
  intro p e s m args below meth c s₁ B hml hv
  obtain ⟨rfl, hsz, hP, hK, hD0, hN⟩ := hv
  have hx := B.exec
  have hb := B.bytes
  have hr := B.returns
  have hlocks := B.notSynchronized
  have hts := atoms_spec (ws := wsX8_luck) B.pre
  have hown := findClass_of_methodNamed B.named
  have hown : s.vm.findClass RX8 = some m.cls := hown
  have hiX8 : ∀ w ∈ u_ws RX8 TX8 32, w ∈ wsX8_luck := fun w9 hw9 => List.mem_cons_of_mem _ (igX8 w9 hw9)
  have fl249 := hts (.fieldLink RX8 249 "HalfScalesModel" "justSum" "J") (List.mem_cons_of_mem _ (hs_inG 4 104 rfl rfl))
  have fl256 := hts (.fieldLink RX8 256 "HalfScalesModel" "allWays" "J") (List.mem_cons_of_mem _ (hs_inG 4 106 rfl rfl))
  have kl259 := hts (.constantLong RX8 259 (10)) (List.mem_cons_of_mem _ (hs_inG 5 200 rfl rfl))
  have kl261 := hts (.constantLong RX8 261 (-1)) (List.mem_cons_of_mem _ (hs_inG 5 201 rfl rfl))
  subst hsz
  have hD := hD0.self (sz := s.heap.size)
  generalize hAe : va_A [oq7 mo mo_st mo_at mo_isKept (nI mo_pe) (nI mo_hm) mo_draft (nI mo_dp) (nI mo_dh) mo_toldLines mo_highest mo_tape (nI mo_tl) (nI mo_ps) (nI mo_fr) mo_sort mo_value (nI mo_ft) mo_wrongAt mo_row mo_orderMany (nI mo_fo) mo_lightest mo_heaviest mo_before mo_justSum mo_toldSum mo_allWays mo_lanes mo_sizes mo_cells mo_torn mo_had, oqI k mo_st 132 (sf), oqI k mo_at 44 (af)] s.heap.size = A at hD ⊢
  have hA : ∀ q : Nat, s.heap.size ≤ q → A q := fun q h => by rw [← hAe]; exact Or.inr h
  have hS : va_S A s.heap s.heap [] := va_S.rf
  have hl := lv_entry ([.ref mo, .int v, .int kk, .int what]) (n := 4) (Nat.le_of_ble_eq_true rfl)
  rw [lg_entry_eq]
  generalize (lg_sl ([.ref mo, .int v, .int kk, .int what]) ++ List.replicate (4 - (lg_sl ([.ref mo, .int v, .int kk, .int what])).length) Slot.unset).toArray = ls at hl ⊢
  have hl : lv_has ls 4 [(0, .ref mo), (1, .int v), (2, .int kk), (3, .int what)] := hl
  have hP : va_P D vwCl [oq7 mo mo_st mo_at mo_isKept (nI mo_pe) (nI mo_hm) mo_draft (nI mo_dp) (nI mo_dh) mo_toldLines mo_highest mo_tape (nI mo_tl) (nI mo_ps) (nI mo_fr) mo_sort mo_value (nI mo_ft) mo_wrongAt mo_row mo_orderMany (nI mo_fo) mo_lightest mo_heaviest mo_before mo_justSum mo_toldSum mo_allWays mo_lanes mo_sizes mo_cells mo_torn mo_had, oqI k mo_st 132 (sf), oqI k mo_at 44 (af)] s.heap := hP
  refine lv_iload_n hx hb dX8_luck_0 rfl (lv_at hl 1 rfl) ?_
  refine lv_i2l hx hb dX8_luck_1 rfl ?_
  refine lv_lconst (v := 0) hx hb dX8_luck_2 (by decide) ?_
  refine lv_ldc2 hx hb hown kl259 dX8_luck_3 ?_
  refine hs_pi (va_runS (As := [.long (((v) : Int32).toInt64), .long 0, .long 10]) (rest := []) ⟨hx, hb, hml, hown, hts⟩ (gm_in l D k _ v 0 10) (va_cwS 3 hts gX8_luck_X8_in rfl rfl rfl hq_X8_in ⟨Nat.le_of_ble_eq_true rfl, Nat.le_of_ble_eq_true rfl⟩) (hs_preS hK hN (hs_subP (w := []) hP [] rfl) (hD.sub (ws' := []) [] rfl rfl)) rfl rfl hl.1 rfl (lv_room (Nat.le_of_ble_eq_true rfl)) dX8_luck_6 ⟨Nat.le_of_ble_eq_true rfl, Nat.le_of_ble_eq_true rfl⟩) hP hD hS hA (fun r_1 u_3 H locs hw_2 hP hS => ?_)
  refine hs_topi (hsb (hsin v 0 10)) hw_2 ?_
  refine lv_if_eq (tgt := 27) hx hb dX8_luck_9 rfl (fun c_4 => ?_) (fun c_4 => ?_)
  · refine lv_ldc2 hx hb hown kl261 dX8_luck_27 ?_
    exact hs_lret hx hb hr hlocks hK hP hD hS (af, mo_justSum, mo_toldSum, mo_allWays) [0, 1, 2] rfl (hs_upnd rfl) dX8_luck_30 (trivial)
  · refine lv_aload_n hx hb dX8_luck_12 rfl (lv_at hl 0 rfl) ?_
    refine lv_iload_n hx hb dX8_luck_13 rfl (lv_at hl 2 rfl) ?_
    refine hs_ciM (va_runV (As := [.int kk]) (rest := []) ⟨hx, hb, hml, hown, hts⟩ (gm_isCut l D k _ mo mo_st mo_at mo_isKept mo_pe mo_hm mo_draft mo_dp mo_dh mo_toldLines mo_highest mo_tape mo_tl mo_ps mo_fr mo_sort mo_value mo_ft mo_wrongAt mo_row mo_orderMany mo_fo mo_lightest mo_heaviest mo_before mo_justSum mo_toldSum mo_allWays mo_lanes mo_sizes mo_cells mo_torn mo_had sf c0 kk e0 (by omega)) (cwV 1 hts gX8_luck_X8_isCut rfl rfl rfl ⟨rfl, hq_X8_isCut⟩ ⟨Nat.le_of_ble_eq_true rfl, Nat.le_of_ble_eq_true rfl⟩) (hs_preV hK hN (hs_subP (w := [_, _]) hP [0, 1] rfl) (hD.sub (ws' := [_, _]) [0, 1] (hs_upnd rfl) rfl) (ci := 7) (q0 := 0) rfl rfl) rfl rfl hl.1 rfl (lv_room (Nat.le_of_ble_eq_true rfl)) dX8_luck_14 ⟨Nat.le_of_ble_eq_true rfl, Nat.le_of_ble_eq_true rfl⟩) hP hD hS hA [false, false, true] [_] [_, _] rfl [0, 1] rfl [0, 1] (fun u_7 => [_, _]) (fun _ => rfl) (hs_upnd rfl) [false, false, true] (fun u_7 => [_, _, _]) (fun _ => rfl) (fun r_5 u_7 H locs hw_6 hP hD hS => ?_)
    refine hs_topi (hsb (hslt1 kk c0)) hw_6 ?_
    refine lv_if_eq (tgt := 27) hx hb dX8_luck_17 rfl (fun c_8 => ?_) (fun c_8 => ?_)
    · refine lv_ldc2 hx hb hown kl261 dX8_luck_27 ?_
      exact hs_lret hx hb hr hlocks hK hP hD hS (af, mo_justSum, mo_toldSum, mo_allWays) [0, 1, 2] rfl (hs_upnd rfl) dX8_luck_30 (trivial)
    · refine lv_iload_n hx hb dX8_luck_20 rfl (lv_at hl 3 rfl) ?_
      refine hs_pi (va_runS (As := [.int what]) (rest := []) ⟨hx, hb, hml, hown, hts⟩ (gm_isPart l D k _ what) (va_cwS 1 hts gX8_luck_X8_isPart rfl rfl rfl hq_X8_isPart ⟨Nat.le_of_ble_eq_true rfl, Nat.le_of_ble_eq_true rfl⟩) (hs_preS hK hN (hs_subP (w := []) hP [] rfl) (hD.sub (ws' := []) [] rfl rfl)) rfl rfl hl.1 rfl (lv_room (Nat.le_of_ble_eq_true rfl)) dX8_luck_21 ⟨Nat.le_of_ble_eq_true rfl, Nat.le_of_ble_eq_true rfl⟩) hP hD hS hA (fun r_9 u_11 H locs hw_10 hP hS => ?_)
      refine hs_topi (hsb (hsin what 0 1)) hw_10 ?_
      refine lv_if_ne (tgt := 31) hx hb dX8_luck_24 rfl (fun c_12 => ?_) (fun c_12 => ?_)
      · refine lv_aload_n hx hb dX8_luck_31 rfl (lv_at hl 0 rfl) ?_
        refine lv_iload_n hx hb dX8_luck_32 rfl (lv_at hl 1 rfl) ?_
        refine lv_iload_n hx hb dX8_luck_33 rfl (lv_at hl 2 rfl) ?_
        refine hs_cvM (va_runV (As := [.int v, .int kk]) (rest := []) ⟨hx, hb, hml, hown, hts⟩ (gm_findCourt l D k _ mo mo_st mo_at mo_isKept mo_pe mo_hm mo_draft mo_dp mo_dh mo_toldLines mo_highest mo_tape mo_tl mo_ps mo_fr mo_sort mo_value mo_ft mo_wrongAt mo_row mo_orderMany mo_fo mo_lightest mo_heaviest mo_before mo_justSum mo_toldSum mo_allWays mo_lanes mo_sizes mo_cells mo_torn mo_had sf c0 c3 c4 af v kk e0 h0 h02 e3 h3 e4 h4 hpe hm2 hm5) (cwV 2 hts gX8_luck_X8_findCourt rfl rfl rfl ⟨rfl, hq_X8_findCourt⟩ ⟨Nat.le_of_ble_eq_true rfl, Nat.le_of_ble_eq_true rfl⟩) (hs_preV hK hN (hs_subP (w := [_, _, _]) hP [0, 1, 2] rfl) (hD.sub (ws' := [_, _, _]) [0, 1, 2] (hs_upnd rfl) rfl) (ci := 7) (q0 := 0) rfl rfl) rfl rfl hl.1 rfl (lv_room (Nat.le_of_ble_eq_true rfl)) dX8_luck_34 ⟨Nat.le_of_ble_eq_true rfl, Nat.le_of_ble_eq_true rfl⟩) hP hD hS hA [false, false, false] [] [_, _, _] rfl [0, 1, 2] rfl [0, 1, 2] (fun u_15 => [_, _, _]) (fun _ => rfl) (hs_upnd rfl) [false, false, false] (fun u_15 => [_, _, _]) (fun _ => rfl) (fun u_15 H locs hw_14 hP hD hS => ?_)
        have hw_14 : ¬ u_15.2.2.2 = 0 := hw_14
        refine lv_aload_n hx hb dX8_luck_37 rfl (lv_at hl 0 rfl) ?_
        refine va_get (D := D) (ci := 7) (v := .long u_15.2.1) (C := RX8) (T := TX8) (N := 32) hx hb hts hiX8 hown hK hP 0 rfl rfl 24 (Nat.le_of_ble_eq_true rfl) fl249 (fun _ h9 => h9) rfl dX8_luck_38 ?_
        refine lv_aload_n hx hb dX8_luck_41 rfl (lv_at hl 0 rfl) ?_
        refine va_get (D := D) (ci := 7) (v := .long u_15.2.2.2) (C := RX8) (T := TX8) (N := 32) hx hb hts hiX8 hown hK hP 0 rfl rfl 26 (Nat.le_of_ble_eq_true rfl) fl256 (fun _ h9 => h9) rfl dX8_luck_42 ?_
        refine lv_iload_n hx hb dX8_luck_45 rfl (lv_at hl 3 rfl) ?_
        refine hs_pl (va_runS (As := [.long u_15.2.1, .long u_15.2.2.2, .int what]) (rest := []) ⟨hx, hb, hml, hown, hts⟩ (gm_told l D k _ u_15.2.1 u_15.2.2.2 what (by assumption)) (va_cwS 3 hts gX8_luck_X8_told rfl rfl rfl hq_X8_told ⟨Nat.le_of_ble_eq_true rfl, Nat.le_of_ble_eq_true rfl⟩) (hs_preS hK hN (hs_subP (w := []) hP [] rfl) (hD.sub (ws' := []) [] rfl rfl)) rfl rfl hl.1 rfl (lv_room (Nat.le_of_ble_eq_true rfl)) dX8_luck_46 ⟨Nat.le_of_ble_eq_true rfl, Nat.le_of_ble_eq_true rfl⟩) hP hD hS hA (fun r_16 u_18 H locs hw_17 hP hS => ?_)
        exact hs_lret hx hb hr hlocks hK hP hD hS (u_15.1, u_15.2.1, u_15.2.2.1, u_15.2.2.2) [0, 1, 2] rfl (hs_upnd rfl) dX8_luck_49 (trivial)
      · refine lv_ldc2 hx hb hown kl261 dX8_luck_27 ?_
        exact hs_lret hx hb hr hlocks hK hP hD hS (af, mo_justSum, mo_toldSum, mo_allWays) [0, 1, 2] rfl (hs_upnd rfl) dX8_luck_30 (trivial)

set_option maxHeartbeats 4000000 in
set_option maxRecDepth 100000 in
theorem gq_fits (l : Launch) (D : va_G) (k : Nat → ClassId) (sz : Nat) (mo : Nat) (mo_st : Nat) (mo_at : Nat) (mo_isKept : Nat) (mo_pe : Nat) (mo_hm : Nat) (mo_draft : Nat) (mo_dp : Nat) (mo_dh : Nat) (mo_toldLines : Int32) (mo_highest : Int32) (mo_tape : Nat) (mo_tl : Nat) (mo_ps : Nat) (mo_fr : Nat) (mo_sort : Int32) (mo_value : Int32) (mo_ft : Nat) (mo_wrongAt : Int32) (mo_row : Nat) (mo_orderMany : Int32) (mo_fo : Nat) (mo_lightest : Int32) (mo_heaviest : Int32) (mo_before : Nat) (mo_justSum : Int64) (mo_toldSum : Int64) (mo_allWays : Int64) (mo_lanes : Nat) (mo_sizes : Nat) (mo_cells : Nat) (mo_torn : Int32) (mo_had : Nat) (sf : Nat → Int32) (c0 : Nat) (c3 : Nat) (c4 : Nat) (fi : Nat) (af : Nat → Int32) (i : Int32) (e0 : sf 0 = nI c0) (h0 : c0 ≤ 8) (h02 : 2 ≤ c0) (e3 : sf 16 = nI c3) (h3 : c3 ≤ 8) (e4 : sf 25 = nI c4) (h4 : c4 ≤ 6) (hpe : mo_pe ≤ 4) (hm2 : 2 ≤ mo_hm) (hm5 : mo_hm ≤ 5) (ef : sf 14 = nI fi) (hfi : fi ≤ 99) (hsaw : ∀ i, i < c4 → vp_in (sf (26 + 3 * i)) 4) : MI l yX8_fits wsX8_fits ({ frames := 5, cells := 0, slots := 0, locals := 116 }) D k [.ref mo, .int i] [oq7 mo mo_st mo_at mo_isKept (nI mo_pe) (nI mo_hm) mo_draft (nI mo_dp) (nI mo_dh) mo_toldLines mo_highest mo_tape (nI mo_tl) (nI mo_ps) (nI mo_fr) mo_sort mo_value (nI mo_ft) mo_wrongAt mo_row mo_orderMany (nI mo_fo) mo_lightest mo_heaviest mo_before mo_justSum mo_toldSum mo_allWays mo_lanes mo_sizes mo_cells mo_torn mo_had, oqI k mo_st 132 (sf), oqI k mo_at 44 (af)] sz (fun (r : Int32) (u : Nat → Int32) => True) (fun (u : Nat → Int32) => [oq7 mo mo_st mo_at mo_isKept (nI mo_pe) (nI mo_hm) mo_draft (nI mo_dp) (nI mo_dh) mo_toldLines mo_highest mo_tape (nI mo_tl) (nI mo_ps) (nI mo_fr) mo_sort mo_value (nI mo_ft) mo_wrongAt mo_row mo_orderMany (nI mo_fo) mo_lightest mo_heaviest mo_before mo_justSum mo_toldSum mo_allWays mo_lanes mo_sizes mo_cells mo_torn mo_had, oqI k mo_st 132 (sf), oqI k mo_at 44 (u)]) := by
  refine Met.ofW (cc := cX8_fits) (maxL := 4) (ret := (some .int)) hpn_X8 rfl ?_
  intro p e s m args below meth c s₁ B hml hv
  obtain ⟨rfl, hsz, hP, hK, hD0, hN⟩ := hv
  have hx := B.exec
  have hb := B.bytes
  have hr := B.returns
  have hlocks := B.notSynchronized
  have hts := atoms_spec (ws := wsX8_fits) B.pre
  have hown := findClass_of_methodNamed B.named
  have hown : s.vm.findClass RX8 = some m.cls := hown
  have hiX8 : ∀ w ∈ u_ws RX8 TX8 32, w ∈ wsX8_fits := fun w9 hw9 => List.mem_cons_of_mem _ (igX8 w9 hw9)
  have fl13 := hts (.fieldLink RX8 13 "HalfScalesModel" "at" "[I") (List.mem_cons_of_mem _ (hs_inG 4 81 rfl rfl))
  subst hsz
  have hD := hD0.self (sz := s.heap.size)
  generalize hAe : va_A [oq7 mo mo_st mo_at mo_isKept (nI mo_pe) (nI mo_hm) mo_draft (nI mo_dp) (nI mo_dh) mo_toldLines mo_highest mo_tape (nI mo_tl) (nI mo_ps) (nI mo_fr) mo_sort mo_value (nI mo_ft) mo_wrongAt mo_row mo_orderMany (nI mo_fo) mo_lightest mo_heaviest mo_before mo_justSum mo_toldSum mo_allWays mo_lanes mo_sizes mo_cells mo_torn mo_had, oqI k mo_st 132 (sf), oqI k mo_at 44 (af)] s.heap.size = A at hD ⊢
  have hA : ∀ q : Nat, s.heap.size ≤ q → A q := fun q h => by rw [← hAe]; exact Or.inr h
  have hS : va_S A s.heap s.heap [] := va_S.rf
  have hl := lv_entry ([.ref mo, .int i]) (n := 4) (Nat.le_of_ble_eq_true rfl)
  rw [lg_entry_eq]
  generalize (lg_sl ([.ref mo, .int i]) ++ List.replicate (4 - (lg_sl ([.ref mo, .int i])).length) Slot.unset).toArray = ls at hl ⊢
  have hl : lv_has ls 4 [(0, .ref mo), (1, .int i)] := hl
  have hP : va_P D vwCl [oq7 mo mo_st mo_at mo_isKept (nI mo_pe) (nI mo_hm) mo_draft (nI mo_dp) (nI mo_dh) mo_toldLines mo_highest mo_tape (nI mo_tl) (nI mo_ps) (nI mo_fr) mo_sort mo_value (nI mo_ft) mo_wrongAt mo_row mo_orderMany (nI mo_fo) mo_lightest mo_heaviest mo_before mo_justSum mo_toldSum mo_allWays mo_lanes mo_sizes mo_cells mo_torn mo_had, oqI k mo_st 132 (sf), oqI k mo_at 44 (af)] s.heap := hP
  refine lv_aload_n hx hb dX8_fits_0 rfl (lv_at hl 0 rfl) ?_
  refine lv_iload_n hx hb dX8_fits_1 rfl (lv_at hl 1 rfl) ?_
  refine hs_ciM (va_runV (As := [.int i]) (rest := []) ⟨hx, hb, hml, hown, hts⟩ (gm_isCell l D k _ mo mo_st mo_at mo_isKept mo_pe mo_hm mo_draft mo_dp mo_dh mo_toldLines mo_highest mo_tape mo_tl mo_ps mo_fr mo_sort mo_value mo_ft mo_wrongAt mo_row mo_orderMany mo_fo mo_lightest mo_heaviest mo_before mo_justSum mo_toldSum mo_allWays mo_lanes mo_sizes mo_cells mo_torn mo_had sf c0 i e0 (by omega)) (cwV 1 hts gX8_fits_X8_isCell rfl rfl rfl ⟨rfl, hq_X8_isCell⟩ ⟨Nat.le_of_ble_eq_true rfl, Nat.le_of_ble_eq_true rfl⟩) (hs_preV hK hN (hs_subP (w := [_, _]) hP [0, 1] rfl) (hD.sub (ws' := [_, _]) [0, 1] (hs_upnd rfl) rfl) (ci := 7) (q0 := 0) rfl rfl) rfl rfl hl.1 rfl (lv_room (Nat.le_of_ble_eq_true rfl)) dX8_fits_2 ⟨Nat.le_of_ble_eq_true rfl, Nat.le_of_ble_eq_true rfl⟩) hP hD hS hA [false, false, true] [_] [_, _] rfl [0, 1] rfl [0, 1] (fun u_3 => [_, _]) (fun _ => rfl) (hs_upnd rfl) [false, false, true] (fun u_3 => [_, _, _]) (fun _ => rfl) (fun r_1 u_3 H locs hw_2 hP hD hS => ?_)
  refine hs_topi (hsb (hslt i c0)) hw_2 ?_
  refine lv_if_ne (tgt := 10) hx hb dX8_fits_5 rfl (fun c_4 => ?_) (fun c_4 => ?_)
  · obtain ⟨ji, hji, rfl⟩ := hslt_ex (hs_nb c_4)
    refine lv_iconst (v := 0) hx hb dX8_fits_10 hki_0 ?_
    refine lv_istore_n (lv' := [(2, .int 0), (0, .ref mo), (1, .int (nI ji))]) hx hb dX8_fits_11 rfl hl (Nat.le_of_ble_eq_true rfl) rfl (fun ls hl => ?_)
    refine lv_aload_n hx hb dX8_fits_12 rfl (lv_at hl 1 rfl) ?_
    refine hs_cvM (va_runV (As := []) (rest := []) ⟨hx, hb, hml, hown, hts⟩ (gm_starts l D k _ mo mo_st mo_at mo_isKept mo_pe mo_hm mo_draft mo_dp mo_dh mo_toldLines mo_highest mo_tape mo_tl mo_ps mo_fr mo_sort mo_value mo_ft mo_wrongAt mo_row mo_orderMany mo_fo mo_lightest mo_heaviest mo_before mo_justSum mo_toldSum mo_allWays mo_lanes mo_sizes mo_cells mo_torn mo_had sf af) (cwV 0 hts gX8_fits_X8_starts rfl rfl rfl ⟨rfl, hq_X8_starts⟩ ⟨Nat.le_of_ble_eq_true rfl, Nat.le_of_ble_eq_true rfl⟩) (hs_preV hK hN (hs_subP (w := [_, _, _]) hP [0, 1, 2] rfl) (hD.sub (ws' := [_, _, _]) [0, 1, 2] (hs_upnd rfl) rfl) (ci := 7) (q0 := 0) rfl rfl) rfl rfl hl.1 rfl (lv_room (Nat.le_of_ble_eq_true rfl)) dX8_fits_13 ⟨Nat.le_of_ble_eq_true rfl, Nat.le_of_ble_eq_true rfl⟩) hP hD hS hA [false, false, false] [] [_, _, _] rfl [0, 1, 2] rfl [0, 1, 2] (fun u_7 => [_, _, _]) (fun _ => rfl) (hs_upnd rfl) [false, false, false] (fun u_7 => [_, _, _]) (fun _ => rfl) (fun u_7 H locs hw_6 hP hD hS => ?_)
    have hw_6 : ∀ j, j < 44 → u_7 j = sf j := hw_6
    have e0a : u_7 0 = nI c0 := (hw_6 0 (by decide)).trans e0
    have e3a : u_7 16 = nI c3 := (hw_6 16 (by decide)).trans e3
    have e4a : u_7 25 = nI c4 := (hw_6 25 (by decide)).trans e4
    have hw_6 : ∀ j, j < 44 → u_7 j = sf j := hw_6
    refine lv_iconst (v := 0) hx hb dX8_fits_16 hki_0 ?_
    refine lv_istore_n (lv' := [(3, .int 0), (2, .int 0), (0, .ref mo), (1, .int (nI ji))]) hx hb dX8_fits_17 rfl hl (Nat.le_of_ble_eq_true rfl) rfl (fun ls hl => ?_)
    refine hs_while (σ := Int32 × Nat × (Nat → Int32)) (fun x => x.2.1 ≤ 10 ∧ ∀ q, q < 44 → ¬ (1 ≤ q ∧ q ≤ 12) → x.2.2 q = sf q) (fun x => 10 - x.2.1) (fun x => [oq7 mo mo_st mo_at mo_isKept (nI mo_pe) (nI mo_hm) mo_draft (nI mo_dp) (nI mo_dh) mo_toldLines mo_highest mo_tape (nI mo_tl) (nI mo_ps) (nI mo_fr) mo_sort mo_value (nI mo_ft) mo_wrongAt mo_row mo_orderMany (nI mo_fo) mo_lightest mo_heaviest mo_before mo_justSum mo_toldSum mo_allWays mo_lanes mo_sizes mo_cells mo_torn mo_had, oqI k mo_st 132 (sf), oqI k mo_at 44 ((x.2.2))]) (fun x => [(3, .int (nI (x.2.1))), (2, .int (x.1)), (0, .ref mo), (1, .int (nI ji))]) ?_ (0, 0, u_7) ?_ hP hD hS hl
    · intro x hI ih18 H locs ls hP hD hS hl
      obtain ⟨so, v, ag⟩ := x
      try dsimp only at hI
      have hP : va_P D vwCl [_, _, oqI k mo_at 44 (ag)] H := hP
      have hD : va_D A [_, _, oqI k mo_at 44 (ag)] := hD
      have hl : lv_has ls 4 [(3, .int (nI v)), (2, .int so), (0, .ref mo), (1, .int (nI ji))] := hl
      refine lv_iload_n hx hb dX8_fits_18 rfl (lv_at hl 0 rfl) ?_
      refine lv_bipush (v := 9) hx hb dX8_fits_19 hkb_9 ?_
      refine lv_icmp_gt (tgt := 51) hx hb dX8_fits_21 rfl (fun c_8 => ?_) (fun c_8 => ?_)
      · have nc_8 : 9 < v := (nI_ltI (a := 9) (b := v) (by omega) (by omega)).mp c_8
        refine lv_iload_n hx hb dX8_fits_51 rfl (lv_at hl 1 rfl) ?_
        exact hs_iret hx hb hr hlocks hK hP hD hS ag [0, 1, 2] rfl (hs_upnd rfl) dX8_fits_52 (trivial)
      · have nc_8 : ¬ 9 < v := fun hq9 => c_8 ((nI_ltI (a := 9) (b := v) (by omega) (by omega)).mpr hq9)
        refine lv_aload_n hx hb dX8_fits_24 rfl (lv_at hl 2 rfl) ?_
        refine va_get (D := D) (ci := 7) (v := .ref mo_at) (C := RX8) (T := TX8) (N := 32) hx hb hts hiX8 hown hK hP 0 rfl rfl 1 (Nat.le_of_ble_eq_true rfl) fl13 (fun _ h9 => h9) rfl dX8_fits_25 ?_
        refine lv_iconst (v := 1) hx hb dX8_fits_28 hki_1 ?_
        refine lv_iload_n hx hb dX8_fits_29 rfl (lv_at hl 3 rfl) ?_
        refine lv_iadd hx hb dX8_fits_30 ?_
        refine hs_topi (nI (1 + ji)) (nI_add (1) (ji)) ?_
        refine lv_iload_n hx hb dX8_fits_31 rfl (lv_at hl 0 rfl) ?_
        refine va_iast hx hb hK hP hD hS 2 0 rfl rfl (vp_in_nI (show (1 + ji) < 44 by omega) (by decide)) dX8_fits_32 (fun H locs hP hD hS => ?_)
        have hP : va_P D vwCl [_, _, oqI k mo_at 44 (upd ag ((nI (1 + ji)).toNatClampNeg) (nI v))] H := hP
        have hD : va_D A [_, _, oqI k mo_at 44 (upd ag ((nI (1 + ji)).toNatClampNeg) (nI v))] := hD
        refine lv_iload_n hx hb dX8_fits_33 rfl (lv_at hl 1 rfl) ?_
        refine lv_aload_n hx hb dX8_fits_34 rfl (lv_at hl 2 rfl) ?_
        refine hs_ciM (va_runV (As := []) (rest := [.int so]) ⟨hx, hb, hml, hown, hts⟩ (gm_isSo l D k _ mo mo_st mo_at mo_isKept mo_pe mo_hm mo_draft mo_dp mo_dh mo_toldLines mo_highest mo_tape mo_tl mo_ps mo_fr mo_sort mo_value mo_ft mo_wrongAt mo_row mo_orderMany mo_fo mo_lightest mo_heaviest mo_before mo_justSum mo_toldSum mo_allWays mo_lanes mo_sizes mo_cells mo_torn mo_had (upd ag ((nI (1 + ji)).toNatClampNeg) (nI v)) c0 c4 (by (repeat rw [hs_uc (by omega) (by omega)]); exact (hI.2 0 (by omega) (by omega)).trans e0) h0 (by (repeat rw [hs_uc (by omega) (by omega)]); exact (hI.2 25 (by omega) (by omega)).trans e4) h4 (fun i9 h9 => by rw [hs_uc (by omega) (by omega), hI.2 (26 + 3 * i9) (by omega) (by omega)]; exact hsaw i9 h9)) (cwV 0 hts gX8_fits_X8_isSo rfl rfl rfl ⟨rfl, hq_X8_isSo⟩ ⟨Nat.le_of_ble_eq_true rfl, Nat.le_of_ble_eq_true rfl⟩) (hs_preV hK hN (hs_subP (w := [_, _]) hP [0, 2] rfl) (hD.sub (ws' := [_, _]) [0, 2] (hs_upnd rfl) rfl) (ci := 7) (q0 := 0) rfl rfl) rfl rfl hl.1 rfl (lv_room (Nat.le_of_ble_eq_true rfl)) dX8_fits_35 ⟨Nat.le_of_ble_eq_true rfl, Nat.le_of_ble_eq_true rfl⟩) hP hD hS hA [false, true, false] [_] [_, _] rfl [0, 1] rfl [0, 1] (fun u_11 => [_, _]) (fun _ => rfl) (hs_upnd rfl) [false, true, false] (fun u_11 => [_, _, _]) (fun _ => rfl) (fun r_9 u_11 H locs hw_10 hP hD hS => ?_)
        refine hs_pi (va_runS (As := [.int r_9]) (rest := [.int so]) ⟨hx, hb, hml, hown, hts⟩ (gm_flag l D k _ r_9) (va_cwS 1 hts gX8_fits_X8_flag rfl rfl rfl hq_X8_flag ⟨Nat.le_of_ble_eq_true rfl, Nat.le_of_ble_eq_true rfl⟩) (hs_preS hK hN (hs_subP (w := []) hP [] rfl) (hD.sub (ws' := []) [] rfl rfl)) rfl rfl hl.1 rfl (lv_room (Nat.le_of_ble_eq_true rfl)) dX8_fits_38 ⟨Nat.le_of_ble_eq_true rfl, Nat.le_of_ble_eq_true rfl⟩) hP hD hS hA (fun r_12 u_14 H locs hw_13 hP hS => ?_)
        refine lv_iload_n hx hb dX8_fits_41 rfl (lv_at hl 0 rfl) ?_
        refine lv_ishl hx hb dX8_fits_42 ?_
        refine lv_ior hx hb dX8_fits_43 ?_
        refine lv_istore_n (lv' := [(2, .int (so ||| (r_12 <<< ((nI v) &&& 31)))), (3, .int (nI v)), (0, .ref mo), (1, .int (nI ji))]) hx hb dX8_fits_44 rfl hl (Nat.le_of_ble_eq_true rfl) rfl (fun ls hl => ?_)
        refine lv_iinc (v := nI (v + 1)) (lv' := [(3, .int (nI (v + 1))), (2, .int (so ||| (r_12 <<< ((nI v) &&& 31)))), (0, .ref mo), (1, .int (nI ji))]) hx hb dX8_fits_45 hl (k := 1) rfl (nI_add (v) 1) (Nat.le_of_ble_eq_true rfl) rfl (fun ls hl => ?_)
        refine lv_goto (tgt := 18) hx hb dX8_fits_48 rfl ?_
        exact ih18 (so ||| (r_12 <<< ((nI v) &&& 31)), v + 1, upd ag ((nI (1 + ji)).toNatClampNeg) (nI v)) (by (try dsimp only); exact ⟨by omega, fun q h1 h2 => by rw [hs_uc (by omega) (by omega)]; exact hI.2 q h1 h2⟩) (by (try dsimp only); omega) _ _ _ hP hD hS (lv_sub hl [0, 1, 2, 3] rfl)
    · (try dsimp only); exact ⟨by omega, fun q h1 _ => hw_6 q h1⟩
  · refine lv_iconst (v := (-1)) hx hb dX8_fits_8 hki_m1 ?_
    exact hs_iret hx hb hr hlocks hK hP hD hS af [0, 1, 2] rfl (hs_upnd rfl) dX8_fits_9 (trivial)

set_option maxHeartbeats 4000000 in
set_option maxRecDepth 100000 in
theorem gq_kinds (l : Launch) (D : va_G) (k : Nat → ClassId) (sz : Nat) (mo : Nat) (mo_st : Nat) (mo_at : Nat) (mo_isKept : Nat) (mo_pe : Nat) (mo_hm : Nat) (mo_draft : Nat) (mo_dp : Nat) (mo_dh : Nat) (mo_toldLines : Int32) (mo_highest : Int32) (mo_tape : Nat) (mo_tl : Nat) (mo_ps : Nat) (mo_fr : Nat) (mo_sort : Int32) (mo_value : Int32) (mo_ft : Nat) (mo_wrongAt : Int32) (mo_row : Nat) (mo_orderMany : Int32) (mo_fo : Nat) (mo_lightest : Int32) (mo_heaviest : Int32) (mo_before : Nat) (mo_justSum : Int64) (mo_toldSum : Int64) (mo_allWays : Int64) (mo_lanes : Nat) (mo_sizes : Nat) (mo_cells : Nat) (mo_torn : Int32) (mo_had : Nat) (sf : Nat → Int32) (c0 : Nat) (c3 : Nat) (c4 : Nat) (fi : Nat) (af : Nat → Int32) (i : Int32) (e0 : sf 0 = nI c0) (h0 : c0 ≤ 8) (h02 : 2 ≤ c0) (e3 : sf 16 = nI c3) (h3 : c3 ≤ 8) (e4 : sf 25 = nI c4) (h4 : c4 ≤ 6) (hpe : mo_pe ≤ 4) (hm2 : 2 ≤ mo_hm) (hm5 : mo_hm ≤ 5) (ef : sf 14 = nI fi) (hfi : fi ≤ 99) (hsaw : ∀ i, i < c4 → vp_in (sf (26 + 3 * i)) 4) : MI l yX8_kinds wsX8_kinds ({ frames := 5, cells := 0, slots := 0, locals := 116 }) D k [.ref mo, .int i] [oq7 mo mo_st mo_at mo_isKept (nI mo_pe) (nI mo_hm) mo_draft (nI mo_dp) (nI mo_dh) mo_toldLines mo_highest mo_tape (nI mo_tl) (nI mo_ps) (nI mo_fr) mo_sort mo_value (nI mo_ft) mo_wrongAt mo_row mo_orderMany (nI mo_fo) mo_lightest mo_heaviest mo_before mo_justSum mo_toldSum mo_allWays mo_lanes mo_sizes mo_cells mo_torn mo_had, oqI k mo_st 132 (sf), oqI k mo_at 44 (af)] sz (fun (r : Int32) (u : Nat → Int32) => True) (fun (u : Nat → Int32) => [oq7 mo mo_st mo_at mo_isKept (nI mo_pe) (nI mo_hm) mo_draft (nI mo_dp) (nI mo_dh) mo_toldLines mo_highest mo_tape (nI mo_tl) (nI mo_ps) (nI mo_fr) mo_sort mo_value (nI mo_ft) mo_wrongAt mo_row mo_orderMany (nI mo_fo) mo_lightest mo_heaviest mo_before mo_justSum mo_toldSum mo_allWays mo_lanes mo_sizes mo_cells mo_torn mo_had, oqI k mo_st 132 (sf), oqI k mo_at 44 (u)]) := by
  refine Met.ofW (cc := cX8_kinds) (maxL := 4) (ret := (some .int)) hpn_X8 rfl ?_
  intro p e s m args below meth c s₁ B hml hv
  obtain ⟨rfl, hsz, hP, hK, hD0, hN⟩ := hv
  have hx := B.exec
  have hb := B.bytes
  have hr := B.returns
  have hlocks := B.notSynchronized
  have hts := atoms_spec (ws := wsX8_kinds) B.pre
  have hown := findClass_of_methodNamed B.named
  have hown : s.vm.findClass RX8 = some m.cls := hown
  have hiX8 : ∀ w ∈ u_ws RX8 TX8 32, w ∈ wsX8_kinds := fun w9 hw9 => List.mem_cons_of_mem _ (igX8 w9 hw9)
  have fl13 := hts (.fieldLink RX8 13 "HalfScalesModel" "at" "[I") (List.mem_cons_of_mem _ (hs_inG 4 81 rfl rfl))
  subst hsz
  have hD := hD0.self (sz := s.heap.size)
  generalize hAe : va_A [oq7 mo mo_st mo_at mo_isKept (nI mo_pe) (nI mo_hm) mo_draft (nI mo_dp) (nI mo_dh) mo_toldLines mo_highest mo_tape (nI mo_tl) (nI mo_ps) (nI mo_fr) mo_sort mo_value (nI mo_ft) mo_wrongAt mo_row mo_orderMany (nI mo_fo) mo_lightest mo_heaviest mo_before mo_justSum mo_toldSum mo_allWays mo_lanes mo_sizes mo_cells mo_torn mo_had, oqI k mo_st 132 (sf), oqI k mo_at 44 (af)] s.heap.size = A at hD ⊢
  have hA : ∀ q : Nat, s.heap.size ≤ q → A q := fun q h => by rw [← hAe]; exact Or.inr h
  have hS : va_S A s.heap s.heap [] := va_S.rf
  have hl := lv_entry ([.ref mo, .int i]) (n := 4) (Nat.le_of_ble_eq_true rfl)
  rw [lg_entry_eq]
  generalize (lg_sl ([.ref mo, .int i]) ++ List.replicate (4 - (lg_sl ([.ref mo, .int i])).length) Slot.unset).toArray = ls at hl ⊢
  have hl : lv_has ls 4 [(0, .ref mo), (1, .int i)] := hl
  have hP : va_P D vwCl [oq7 mo mo_st mo_at mo_isKept (nI mo_pe) (nI mo_hm) mo_draft (nI mo_dp) (nI mo_dh) mo_toldLines mo_highest mo_tape (nI mo_tl) (nI mo_ps) (nI mo_fr) mo_sort mo_value (nI mo_ft) mo_wrongAt mo_row mo_orderMany (nI mo_fo) mo_lightest mo_heaviest mo_before mo_justSum mo_toldSum mo_allWays mo_lanes mo_sizes mo_cells mo_torn mo_had, oqI k mo_st 132 (sf), oqI k mo_at 44 (af)] s.heap := hP
  refine lv_aload_n hx hb dX8_kinds_0 rfl (lv_at hl 0 rfl) ?_
  refine lv_iload_n hx hb dX8_kinds_1 rfl (lv_at hl 1 rfl) ?_
  refine hs_ciM (va_runV (As := [.int i]) (rest := []) ⟨hx, hb, hml, hown, hts⟩ (gm_isPerson l D k _ mo mo_st mo_at mo_isKept mo_pe mo_hm mo_draft mo_dp mo_dh mo_toldLines mo_highest mo_tape mo_tl mo_ps mo_fr mo_sort mo_value mo_ft mo_wrongAt mo_row mo_orderMany mo_fo mo_lightest mo_heaviest mo_before mo_justSum mo_toldSum mo_allWays mo_lanes mo_sizes mo_cells mo_torn mo_had i (by omega)) (cwV 1 hts gX8_kinds_X8_isPerson rfl rfl rfl ⟨rfl, hq_X8_isPerson⟩ ⟨Nat.le_of_ble_eq_true rfl, Nat.le_of_ble_eq_true rfl⟩) (hs_preV hK hN (hs_subP (w := [_]) hP [0] rfl) (hD.sub (ws' := [_]) [0] (hs_upnd rfl) rfl) (ci := 7) (q0 := 0) rfl rfl) rfl rfl hl.1 rfl (lv_room (Nat.le_of_ble_eq_true rfl)) dX8_kinds_2 ⟨Nat.le_of_ble_eq_true rfl, Nat.le_of_ble_eq_true rfl⟩) hP hD hS hA [false, true, true] [_, _] [_] rfl [0] rfl [0] (fun u_3 => [_]) (fun _ => rfl) (hs_upnd rfl) [false, true, true] (fun u_3 => [_, _, _]) (fun _ => rfl) (fun r_1 u_3 H locs hw_2 hP hD hS => ?_)
  refine hs_topi (hsb (hslt i mo_pe)) hw_2 ?_
  refine lv_if_ne (tgt := 10) hx hb dX8_kinds_5 rfl (fun c_4 => ?_) (fun c_4 => ?_)
  · obtain ⟨ji, hji, rfl⟩ := hslt_ex (hs_nb c_4)
    refine lv_iconst (v := 0) hx hb dX8_kinds_10 hki_0 ?_
    refine lv_istore_n (lv' := [(2, .int 0), (0, .ref mo), (1, .int (nI ji))]) hx hb dX8_kinds_11 rfl hl (Nat.le_of_ble_eq_true rfl) rfl (fun ls hl => ?_)
    refine lv_aload_n hx hb dX8_kinds_12 rfl (lv_at hl 1 rfl) ?_
    refine hs_cvM (va_runV (As := []) (rest := []) ⟨hx, hb, hml, hown, hts⟩ (gm_starts l D k _ mo mo_st mo_at mo_isKept mo_pe mo_hm mo_draft mo_dp mo_dh mo_toldLines mo_highest mo_tape mo_tl mo_ps mo_fr mo_sort mo_value mo_ft mo_wrongAt mo_row mo_orderMany mo_fo mo_lightest mo_heaviest mo_before mo_justSum mo_toldSum mo_allWays mo_lanes mo_sizes mo_cells mo_torn mo_had sf af) (cwV 0 hts gX8_kinds_X8_starts rfl rfl rfl ⟨rfl, hq_X8_starts⟩ ⟨Nat.le_of_ble_eq_true rfl, Nat.le_of_ble_eq_true rfl⟩) (hs_preV hK hN (hs_subP (w := [_, _, _]) hP [0, 1, 2] rfl) (hD.sub (ws' := [_, _, _]) [0, 1, 2] (hs_upnd rfl) rfl) (ci := 7) (q0 := 0) rfl rfl) rfl rfl hl.1 rfl (lv_room (Nat.le_of_ble_eq_true rfl)) dX8_kinds_13 ⟨Nat.le_of_ble_eq_true rfl, Nat.le_of_ble_eq_true rfl⟩) hP hD hS hA [false, false, false] [] [_, _, _] rfl [0, 1, 2] rfl [0, 1, 2] (fun u_7 => [_, _, _]) (fun _ => rfl) (hs_upnd rfl) [false, false, false] (fun u_7 => [_, _, _]) (fun _ => rfl) (fun u_7 H locs hw_6 hP hD hS => ?_)
    have hw_6 : ∀ j, j < 44 → u_7 j = sf j := hw_6
    have e0a : u_7 0 = nI c0 := (hw_6 0 (by decide)).trans e0
    have e3a : u_7 16 = nI c3 := (hw_6 16 (by decide)).trans e3
    have e4a : u_7 25 = nI c4 := (hw_6 25 (by decide)).trans e4
    have hw_6 : ∀ j, j < 44 → u_7 j = sf j := hw_6
    refine lv_iconst (v := 0) hx hb dX8_kinds_16 hki_0 ?_
    refine lv_istore_n (lv' := [(3, .int 0), (2, .int 0), (0, .ref mo), (1, .int (nI ji))]) hx hb dX8_kinds_17 rfl hl (Nat.le_of_ble_eq_true rfl) rfl (fun ls hl => ?_)
    refine hs_while (σ := Int32 × Nat × (Nat → Int32)) (fun x => x.2.1 ≤ 4 ∧ ∀ q, q < 44 → ¬ (1 ≤ q ∧ q ≤ 12) → x.2.2 q = sf q) (fun x => 4 - x.2.1) (fun x => [oq7 mo mo_st mo_at mo_isKept (nI mo_pe) (nI mo_hm) mo_draft (nI mo_dp) (nI mo_dh) mo_toldLines mo_highest mo_tape (nI mo_tl) (nI mo_ps) (nI mo_fr) mo_sort mo_value (nI mo_ft) mo_wrongAt mo_row mo_orderMany (nI mo_fo) mo_lightest mo_heaviest mo_before mo_justSum mo_toldSum mo_allWays mo_lanes mo_sizes mo_cells mo_torn mo_had, oqI k mo_st 132 (sf), oqI k mo_at 44 ((x.2.2))]) (fun x => [(3, .int (nI (x.2.1))), (2, .int (x.1)), (0, .ref mo), (1, .int (nI ji))]) ?_ (0, 0, u_7) ?_ hP hD hS hl
    · intro x hI ih18 H locs ls hP hD hS hl
      obtain ⟨so, v, ag⟩ := x
      try dsimp only at hI
      have hP : va_P D vwCl [_, _, oqI k mo_at 44 (ag)] H := hP
      have hD : va_D A [_, _, oqI k mo_at 44 (ag)] := hD
      have hl : lv_has ls 4 [(3, .int (nI v)), (2, .int so), (0, .ref mo), (1, .int (nI ji))] := hl
      refine lv_iload_n hx hb dX8_kinds_18 rfl (lv_at hl 0 rfl) ?_
      refine lv_iconst (v := 4) hx hb dX8_kinds_19 hki_4 ?_
      refine lv_icmp_ge (tgt := 51) hx hb dX8_kinds_20 rfl (fun c_8 => ?_) (fun c_8 => ?_)
      · have nc_8 : 4 ≤ v := (nI_leI (a := 4) (b := v) (by omega) (by omega)).mp c_8
        refine lv_iload_n hx hb dX8_kinds_51 rfl (lv_at hl 1 rfl) ?_
        exact hs_iret hx hb hr hlocks hK hP hD hS ag [0, 1, 2] rfl (hs_upnd rfl) dX8_kinds_52 (trivial)
      · have nc_8 : ¬ 4 ≤ v := fun hq9 => c_8 ((nI_leI (a := 4) (b := v) (by omega) (by omega)).mpr hq9)
        refine lv_aload_n hx hb dX8_kinds_23 rfl (lv_at hl 2 rfl) ?_
        refine va_get (D := D) (ci := 7) (v := .ref mo_at) (C := RX8) (T := TX8) (N := 32) hx hb hts hiX8 hown hK hP 0 rfl rfl 1 (Nat.le_of_ble_eq_true rfl) fl13 (fun _ h9 => h9) rfl dX8_kinds_24 ?_
        refine lv_bipush (v := 9) hx hb dX8_kinds_27 hkb_9 ?_
        refine lv_iload_n hx hb dX8_kinds_29 rfl (lv_at hl 3 rfl) ?_
        refine lv_iadd hx hb dX8_kinds_30 ?_
        refine hs_topi (nI (9 + ji)) (nI_add (9) (ji)) ?_
        refine lv_iload_n hx hb dX8_kinds_31 rfl (lv_at hl 0 rfl) ?_
        refine va_iast hx hb hK hP hD hS 2 0 rfl rfl (vp_in_nI (show (9 + ji) < 44 by omega) (by decide)) dX8_kinds_32 (fun H locs hP hD hS => ?_)
        have hP : va_P D vwCl [_, _, oqI k mo_at 44 (upd ag ((nI (9 + ji)).toNatClampNeg) (nI v))] H := hP
        have hD : va_D A [_, _, oqI k mo_at 44 (upd ag ((nI (9 + ji)).toNatClampNeg) (nI v))] := hD
        refine lv_iload_n hx hb dX8_kinds_33 rfl (lv_at hl 1 rfl) ?_
        refine lv_aload_n hx hb dX8_kinds_34 rfl (lv_at hl 2 rfl) ?_
        refine hs_ciM (va_runV (As := []) (rest := [.int so]) ⟨hx, hb, hml, hown, hts⟩ (gm_isSo l D k _ mo mo_st mo_at mo_isKept mo_pe mo_hm mo_draft mo_dp mo_dh mo_toldLines mo_highest mo_tape mo_tl mo_ps mo_fr mo_sort mo_value mo_ft mo_wrongAt mo_row mo_orderMany mo_fo mo_lightest mo_heaviest mo_before mo_justSum mo_toldSum mo_allWays mo_lanes mo_sizes mo_cells mo_torn mo_had (upd ag ((nI (9 + ji)).toNatClampNeg) (nI v)) c0 c4 (by (repeat rw [hs_uc (by omega) (by omega)]); exact (hI.2 0 (by omega) (by omega)).trans e0) h0 (by (repeat rw [hs_uc (by omega) (by omega)]); exact (hI.2 25 (by omega) (by omega)).trans e4) h4 (fun i9 h9 => by rw [hs_uc (by omega) (by omega), hI.2 (26 + 3 * i9) (by omega) (by omega)]; exact hsaw i9 h9)) (cwV 0 hts gX8_kinds_X8_isSo rfl rfl rfl ⟨rfl, hq_X8_isSo⟩ ⟨Nat.le_of_ble_eq_true rfl, Nat.le_of_ble_eq_true rfl⟩) (hs_preV hK hN (hs_subP (w := [_, _]) hP [0, 2] rfl) (hD.sub (ws' := [_, _]) [0, 2] (hs_upnd rfl) rfl) (ci := 7) (q0 := 0) rfl rfl) rfl rfl hl.1 rfl (lv_room (Nat.le_of_ble_eq_true rfl)) dX8_kinds_35 ⟨Nat.le_of_ble_eq_true rfl, Nat.le_of_ble_eq_true rfl⟩) hP hD hS hA [false, true, false] [_] [_, _] rfl [0, 1] rfl [0, 1] (fun u_11 => [_, _]) (fun _ => rfl) (hs_upnd rfl) [false, true, false] (fun u_11 => [_, _, _]) (fun _ => rfl) (fun r_9 u_11 H locs hw_10 hP hD hS => ?_)
        refine hs_pi (va_runS (As := [.int r_9]) (rest := [.int so]) ⟨hx, hb, hml, hown, hts⟩ (gm_flag l D k _ r_9) (va_cwS 1 hts gX8_kinds_X8_flag rfl rfl rfl hq_X8_flag ⟨Nat.le_of_ble_eq_true rfl, Nat.le_of_ble_eq_true rfl⟩) (hs_preS hK hN (hs_subP (w := []) hP [] rfl) (hD.sub (ws' := []) [] rfl rfl)) rfl rfl hl.1 rfl (lv_room (Nat.le_of_ble_eq_true rfl)) dX8_kinds_38 ⟨Nat.le_of_ble_eq_true rfl, Nat.le_of_ble_eq_true rfl⟩) hP hD hS hA (fun r_12 u_14 H locs hw_13 hP hS => ?_)
        refine lv_iload_n hx hb dX8_kinds_41 rfl (lv_at hl 0 rfl) ?_
        refine lv_ishl hx hb dX8_kinds_42 ?_
        refine lv_ior hx hb dX8_kinds_43 ?_
        refine lv_istore_n (lv' := [(2, .int (so ||| (r_12 <<< ((nI v) &&& 31)))), (3, .int (nI v)), (0, .ref mo), (1, .int (nI ji))]) hx hb dX8_kinds_44 rfl hl (Nat.le_of_ble_eq_true rfl) rfl (fun ls hl => ?_)
        refine lv_iinc (v := nI (v + 1)) (lv' := [(3, .int (nI (v + 1))), (2, .int (so ||| (r_12 <<< ((nI v) &&& 31)))), (0, .ref mo), (1, .int (nI ji))]) hx hb dX8_kinds_45 hl (k := 1) rfl (nI_add (v) 1) (Nat.le_of_ble_eq_true rfl) rfl (fun ls hl => ?_)
        refine lv_goto (tgt := 18) hx hb dX8_kinds_48 rfl ?_
        exact ih18 (so ||| (r_12 <<< ((nI v) &&& 31)), v + 1, upd ag ((nI (9 + ji)).toNatClampNeg) (nI v)) (by (try dsimp only); exact ⟨by omega, fun q h1 h2 => by rw [hs_uc (by omega) (by omega)]; exact hI.2 q h1 h2⟩) (by (try dsimp only); omega) _ _ _ hP hD hS (lv_sub hl [0, 1, 2, 3] rfl)
    · (try dsimp only); exact ⟨by omega, fun q h1 _ => hw_6 q h1⟩
  · refine lv_iconst (v := (-1)) hx hb dX8_kinds_8 hki_m1 ?_
    exact hs_iret hx hb hr hlocks hK hP hD hS af [0, 1, 2] rfl (hs_upnd rfl) dX8_kinds_9 (trivial)

set_option maxHeartbeats 4000000 in
set_option maxRecDepth 100000 in
theorem gq_drift (l : Launch) (D : va_G) (k : Nat → ClassId) (sz : Nat) (mo : Nat) (mo_st : Nat) (mo_at : Nat) (mo_isKept : Nat) (mo_pe : Nat) (mo_hm : Nat) (mo_draft : Nat) (mo_dp : Nat) (mo_dh : Nat) (mo_toldLines : Int32) (mo_highest : Int32) (mo_tape : Nat) (mo_tl : Nat) (mo_ps : Nat) (mo_fr : Nat) (mo_sort : Int32) (mo_value : Int32) (mo_ft : Nat) (mo_wrongAt : Int32) (mo_row : Nat) (mo_orderMany : Int32) (mo_fo : Nat) (mo_lightest : Int32) (mo_heaviest : Int32) (mo_before : Nat) (mo_justSum : Int64) (mo_toldSum : Int64) (mo_allWays : Int64) (mo_lanes : Nat) (mo_sizes : Nat) (mo_cells : Nat) (mo_torn : Int32) (mo_had : Nat) (sf : Nat → Int32) (c0 : Nat) (c3 : Nat) (c4 : Nat) (fi : Nat) (af : Nat → Int32) (seed : Int32) (n : Int32) (what : Int32) (e0 : sf 0 = nI c0) (h0 : c0 ≤ 8) (h02 : 2 ≤ c0) (e3 : sf 16 = nI c3) (h3 : c3 ≤ 8) (e4 : sf 25 = nI c4) (h4 : c4 ≤ 6) (hpe : mo_pe ≤ 4) (hm2 : 2 ≤ mo_hm) (hm5 : mo_hm ≤ 5) (ef : sf 14 = nI fi) (hfi : fi ≤ 99) (hsaw : ∀ i, i < c4 → vp_in (sf (26 + 3 * i)) 4) : MI l yX8_drift wsX8_drift ({ frames := 5, cells := 0, slots := 0, locals := 116 }) D k [.ref mo, .int seed, .int n, .int what] [oq7 mo mo_st mo_at mo_isKept (nI mo_pe) (nI mo_hm) mo_draft (nI mo_dp) (nI mo_dh) mo_toldLines mo_highest mo_tape (nI mo_tl) (nI mo_ps) (nI mo_fr) mo_sort mo_value (nI mo_ft) mo_wrongAt mo_row mo_orderMany (nI mo_fo) mo_lightest mo_heaviest mo_before mo_justSum mo_toldSum mo_allWays mo_lanes mo_sizes mo_cells mo_torn mo_had, oqI k mo_st 132 (sf), oqI k mo_at 44 (af)] sz (fun (r : Int32) (u : Nat → Int32) => True) (fun (u : Nat → Int32) => [oq7 mo mo_st mo_at mo_isKept (nI mo_pe) (nI mo_hm) mo_draft (nI mo_dp) (nI mo_dh) mo_toldLines mo_highest mo_tape (nI mo_tl) (nI mo_ps) (nI mo_fr) mo_sort mo_value (nI mo_ft) mo_wrongAt mo_row mo_orderMany (nI mo_fo) mo_lightest mo_heaviest mo_before mo_justSum mo_toldSum mo_allWays mo_lanes mo_sizes mo_cells mo_torn mo_had, oqI k mo_st 132 (sf), oqI k mo_at 44 (u)]) := by
  refine Met.ofW (cc := cX8_drift) (maxL := 9) (ret := (some .int)) hpn_X8 rfl ?_
  intro p e s m args below meth c s₁ B hml hv
  obtain ⟨rfl, hsz, hP, hK, hD0, hN⟩ := hv
  have hx := B.exec
  have hb := B.bytes
  have hr := B.returns
  have hlocks := B.notSynchronized
  have hts := atoms_spec (ws := wsX8_drift) B.pre
  have hown := findClass_of_methodNamed B.named
  have hown : s.vm.findClass RX8 = some m.cls := hown
  have hiX8 : ∀ w ∈ u_ws RX8 TX8 32, w ∈ wsX8_drift := fun w9 hw9 => List.mem_cons_of_mem _ (igX8 w9 hw9)
  have fl13 := hts (.fieldLink RX8 13 "HalfScalesModel" "at" "[I") (List.mem_cons_of_mem _ (hs_inG 4 81 rfl rfl))
  have kl275 := hts (.constantLong RX8 275 (60)) (List.mem_cons_of_mem _ (hs_inG 6 0 rfl rfl))
  have kc277 := hts (.constant RX8 277 (1103515245)) (List.mem_cons_of_mem _ (hs_inG 6 1 rfl rfl))
  subst hsz
  have hD := hD0.self (sz := s.heap.size)
  generalize hAe : va_A [oq7 mo mo_st mo_at mo_isKept (nI mo_pe) (nI mo_hm) mo_draft (nI mo_dp) (nI mo_dh) mo_toldLines mo_highest mo_tape (nI mo_tl) (nI mo_ps) (nI mo_fr) mo_sort mo_value (nI mo_ft) mo_wrongAt mo_row mo_orderMany (nI mo_fo) mo_lightest mo_heaviest mo_before mo_justSum mo_toldSum mo_allWays mo_lanes mo_sizes mo_cells mo_torn mo_had, oqI k mo_st 132 (sf), oqI k mo_at 44 (af)] s.heap.size = A at hD ⊢
  have hA : ∀ q : Nat, s.heap.size ≤ q → A q := fun q h => by rw [← hAe]; exact Or.inr h
  have hS : va_S A s.heap s.heap [] := va_S.rf
  have hl := lv_entry ([.ref mo, .int seed, .int n, .int what]) (n := 9) (Nat.le_of_ble_eq_true rfl)
  rw [lg_entry_eq]
  generalize (lg_sl ([.ref mo, .int seed, .int n, .int what]) ++ List.replicate (9 - (lg_sl ([.ref mo, .int seed, .int n, .int what])).length) Slot.unset).toArray = ls at hl ⊢
  have hl : lv_has ls 9 [(0, .ref mo), (1, .int seed), (2, .int n), (3, .int what)] := hl
  have hP : va_P D vwCl [oq7 mo mo_st mo_at mo_isKept (nI mo_pe) (nI mo_hm) mo_draft (nI mo_dp) (nI mo_dh) mo_toldLines mo_highest mo_tape (nI mo_tl) (nI mo_ps) (nI mo_fr) mo_sort mo_value (nI mo_ft) mo_wrongAt mo_row mo_orderMany (nI mo_fo) mo_lightest mo_heaviest mo_before mo_justSum mo_toldSum mo_allWays mo_lanes mo_sizes mo_cells mo_torn mo_had, oqI k mo_st 132 (sf), oqI k mo_at 44 (af)] s.heap := hP
  refine lv_iload_n hx hb dX8_drift_0 rfl (lv_at hl 2 rfl) ?_
  refine lv_i2l hx hb dX8_drift_1 rfl ?_
  refine lv_lconst (v := 1) hx hb dX8_drift_2 (by decide) ?_
  refine lv_ldc2 hx hb hown kl275 dX8_drift_3 ?_
  refine hs_pi (va_runS (As := [.long (((n) : Int32).toInt64), .long 1, .long 60]) (rest := []) ⟨hx, hb, hml, hown, hts⟩ (gm_in l D k _ n 1 60) (va_cwS 3 hts gX8_drift_X8_in rfl rfl rfl hq_X8_in ⟨Nat.le_of_ble_eq_true rfl, Nat.le_of_ble_eq_true rfl⟩) (hs_preS hK hN (hs_subP (w := []) hP [] rfl) (hD.sub (ws' := []) [] rfl rfl)) rfl rfl hl.1 rfl (lv_room (Nat.le_of_ble_eq_true rfl)) dX8_drift_6 ⟨Nat.le_of_ble_eq_true rfl, Nat.le_of_ble_eq_true rfl⟩) hP hD hS hA (fun r_1 u_3 H locs hw_2 hP hS => ?_)
  refine hs_topi (hsb (hsin n 1 60)) hw_2 ?_
  refine lv_if_eq (tgt := 19) hx hb dX8_drift_9 rfl (fun c_4 => ?_) (fun c_4 => ?_)
  · refine lv_iconst (v := (-1)) hx hb dX8_drift_19 hki_m1 ?_
    exact hs_iret hx hb hr hlocks hK hP hD hS af [0, 1, 2] rfl (hs_upnd rfl) dX8_drift_20 (trivial)
  · obtain ⟨N, hN60, rfl⟩ := hs_n60 (hs_nb c_4)
    refine lv_iload_n hx hb dX8_drift_12 rfl (lv_at hl 3 rfl) ?_
    refine hs_pi (va_runS (As := [.int what]) (rest := []) ⟨hx, hb, hml, hown, hts⟩ (gm_isPart l D k _ what) (va_cwS 1 hts gX8_drift_X8_isPart rfl rfl rfl hq_X8_isPart ⟨Nat.le_of_ble_eq_true rfl, Nat.le_of_ble_eq_true rfl⟩) (hs_preS hK hN (hs_subP (w := []) hP [] rfl) (hD.sub (ws' := []) [] rfl rfl)) rfl rfl hl.1 rfl (lv_room (Nat.le_of_ble_eq_true rfl)) dX8_drift_13 ⟨Nat.le_of_ble_eq_true rfl, Nat.le_of_ble_eq_true rfl⟩) hP hD hS hA (fun r_5 u_7 H locs hw_6 hP hS => ?_)
    refine hs_topi (hsb (hsin what 0 1)) hw_6 ?_
    refine lv_if_ne (tgt := 21) hx hb dX8_drift_16 rfl (fun c_8 => ?_) (fun c_8 => ?_)
    · refine lv_iload_n hx hb dX8_drift_21 rfl (lv_at hl 1 rfl) ?_
      refine lv_istore (lv' := [(4, .int seed), (0, .ref mo), (1, .int seed), (2, .int (nI N)), (3, .int what)]) hx hb dX8_drift_22 hl (Nat.le_of_ble_eq_true rfl) rfl (fun ls hl => ?_)
      refine lv_iconst (v := 0) hx hb dX8_drift_24 hki_0 ?_
      refine lv_istore (lv' := [(5, .int 0), (4, .int seed), (0, .ref mo), (1, .int seed), (2, .int (nI N)), (3, .int what)]) hx hb dX8_drift_25 hl (Nat.le_of_ble_eq_true rfl) rfl (fun ls hl => ?_)
      refine lv_aload_n hx hb dX8_drift_27 rfl (lv_at hl 2 rfl) ?_
      refine hs_cvM (va_runV (As := []) (rest := []) ⟨hx, hb, hml, hown, hts⟩ (gm_starts l D k _ mo mo_st mo_at mo_isKept mo_pe mo_hm mo_draft mo_dp mo_dh mo_toldLines mo_highest mo_tape mo_tl mo_ps mo_fr mo_sort mo_value mo_ft mo_wrongAt mo_row mo_orderMany mo_fo mo_lightest mo_heaviest mo_before mo_justSum mo_toldSum mo_allWays mo_lanes mo_sizes mo_cells mo_torn mo_had sf af) (cwV 0 hts gX8_drift_X8_starts rfl rfl rfl ⟨rfl, hq_X8_starts⟩ ⟨Nat.le_of_ble_eq_true rfl, Nat.le_of_ble_eq_true rfl⟩) (hs_preV hK hN (hs_subP (w := [_, _, _]) hP [0, 1, 2] rfl) (hD.sub (ws' := [_, _, _]) [0, 1, 2] (hs_upnd rfl) rfl) (ci := 7) (q0 := 0) rfl rfl) rfl rfl hl.1 rfl (lv_room (Nat.le_of_ble_eq_true rfl)) dX8_drift_28 ⟨Nat.le_of_ble_eq_true rfl, Nat.le_of_ble_eq_true rfl⟩) hP hD hS hA [false, false, false] [] [_, _, _] rfl [0, 1, 2] rfl [0, 1, 2] (fun u_11 => [_, _, _]) (fun _ => rfl) (hs_upnd rfl) [false, false, false] (fun u_11 => [_, _, _]) (fun _ => rfl) (fun u_11 H locs hw_10 hP hD hS => ?_)
      have hw_10 : ∀ j, j < 44 → u_11 j = sf j := hw_10
      have e0a : u_11 0 = nI c0 := (hw_10 0 (by decide)).trans e0
      have e3a : u_11 16 = nI c3 := (hw_10 16 (by decide)).trans e3
      have e4a : u_11 25 = nI c4 := (hw_10 25 (by decide)).trans e4
      have hw_10 : ∀ j, j < 44 → u_11 j = sf j := hw_10
      refine lv_iconst (v := 0) hx hb dX8_drift_31 hki_0 ?_
      refine lv_istore (lv' := [(6, .int 0), (5, .int 0), (4, .int seed), (0, .ref mo), (1, .int seed), (2, .int (nI N)), (3, .int what)]) hx hb dX8_drift_32 hl (Nat.le_of_ble_eq_true rfl) rfl (fun ls hl => ?_)
      refine hs_while (σ := Int32 × Int32 × Nat × (Nat → Int32)) (fun x => x.2.2.1 ≤ N ∧ ∀ q, q < 44 → ¬ (1 ≤ q ∧ q ≤ 12) → x.2.2.2 q = sf q) (fun x => N - x.2.2.1) (fun x => [oq7 mo mo_st mo_at mo_isKept (nI mo_pe) (nI mo_hm) mo_draft (nI mo_dp) (nI mo_dh) mo_toldLines mo_highest mo_tape (nI mo_tl) (nI mo_ps) (nI mo_fr) mo_sort mo_value (nI mo_ft) mo_wrongAt mo_row mo_orderMany (nI mo_fo) mo_lightest mo_heaviest mo_before mo_justSum mo_toldSum mo_allWays mo_lanes mo_sizes mo_cells mo_torn mo_had, oqI k mo_st 132 (sf), oqI k mo_at 44 ((x.2.2.2))]) (fun x => [(6, .int (nI (x.2.2.1))), (5, .int (x.2.1)), (4, .int (x.1)), (0, .ref mo), (1, .int seed), (2, .int (nI N)), (3, .int what)]) ?_ (seed, 0, 0, u_11) ?_ hP hD hS hl
      · intro x hI ih34 H locs ls hP hD hS hl
        obtain ⟨vv, sum, x6, ag⟩ := x
        try dsimp only at hI
        have hP : va_P D vwCl [_, _, oqI k mo_at 44 (ag)] H := hP
        have hD : va_D A [_, _, oqI k mo_at 44 (ag)] := hD
        have hl : lv_has ls 9 [(6, .int (nI x6)), (5, .int sum), (4, .int vv), (0, .ref mo), (1, .int seed), (2, .int (nI N)), (3, .int what)] := hl
        refine lv_iload hx hb dX8_drift_34 (lv_at hl 0 rfl) ?_
        refine lv_iload_n hx hb dX8_drift_36 rfl (lv_at hl 5 rfl) ?_
        refine lv_icmp_ge (tgt := 127) hx hb dX8_drift_37 rfl (fun c_12 => ?_) (fun c_12 => ?_)
        · have nc_12 : N ≤ x6 := (nI_leI (a := N) (b := x6) (by omega) (by omega)).mp c_12
          have e0h := (hI.2 0 (by omega) (by omega)).trans e0
          refine lv_iload_n hx hb dX8_drift_127 rfl (lv_at hl 6 rfl) ?_
          refine lv_if_ne (tgt := 136) hx hb dX8_drift_128 rfl (fun c_13 => ?_) (fun c_13 => ?_)
          · refine lv_aload_n hx hb dX8_drift_136 rfl (lv_at hl 3 rfl) ?_
            refine hs_ciM (va_runV (As := []) (rest := []) ⟨hx, hb, hml, hown, hts⟩ (gm_allWeights l D k _ mo mo_st mo_at mo_isKept mo_pe mo_hm mo_draft mo_dp mo_dh mo_toldLines mo_highest mo_tape mo_tl mo_ps mo_fr mo_sort mo_value mo_ft mo_wrongAt mo_row mo_orderMany mo_fo mo_lightest mo_heaviest mo_before mo_justSum mo_toldSum mo_allWays mo_lanes mo_sizes mo_cells mo_torn mo_had ag c0 e0h h0) (cwV 0 hts gX8_drift_X8_allWeights rfl rfl rfl ⟨rfl, hq_X8_allWeights⟩ ⟨Nat.le_of_ble_eq_true rfl, Nat.le_of_ble_eq_true rfl⟩) (hs_preV hK hN (hs_subP (w := [_, _]) hP [0, 2] rfl) (hD.sub (ws' := [_, _]) [0, 2] (hs_upnd rfl) rfl) (ci := 7) (q0 := 0) rfl rfl) rfl rfl hl.1 rfl (lv_room (Nat.le_of_ble_eq_true rfl)) dX8_drift_137 ⟨Nat.le_of_ble_eq_true rfl, Nat.le_of_ble_eq_true rfl⟩) hP hD hS hA [false, true, false] [_] [_, _] rfl [0, 1] rfl [0, 1] (fun u_16 => [_, _]) (fun _ => rfl) (hs_upnd rfl) [false, true, false] (fun u_16 => [_, _, _]) (fun _ => rfl) (fun r_14 u_16 H locs hw_15 hP hD hS => ?_)
            exact hs_iret hx hb hr hlocks hK hP hD hS ag [0, 1, 2] rfl (hs_upnd rfl) dX8_drift_140 (trivial)
          · refine lv_iload hx hb dX8_drift_131 (lv_at hl 1 rfl) ?_
            refine lv_goto (tgt := 140) hx hb dX8_drift_133 rfl ?_
            exact hs_iret hx hb hr hlocks hK hP hD hS ag [0, 1, 2] rfl (hs_upnd rfl) dX8_drift_140 (trivial)
        · have nc_12 : ¬ N ≤ x6 := fun hq9 => c_12 ((nI_leI (a := N) (b := x6) (by omega) (by omega)).mpr hq9)
          refine lv_iload hx hb dX8_drift_40 (lv_at hl 2 rfl) ?_
          refine lv_ldcw hx hb hown kc277 dX8_drift_42 ?_
          refine lv_imul hx hb dX8_drift_45 ?_
          refine lv_sipush (v := 12345) hx hb dX8_drift_46 hkp_12345 ?_
          refine lv_iadd hx hb dX8_drift_49 ?_
          refine lv_istore (lv' := [(4, .int ((vv * 1103515245) + 12345)), (6, .int (nI x6)), (5, .int sum), (0, .ref mo), (1, .int seed), (2, .int (nI N)), (3, .int what)]) hx hb dX8_drift_50 hl (Nat.le_of_ble_eq_true rfl) rfl (fun ls hl => ?_)
          refine lv_iload hx hb dX8_drift_52 (lv_at hl 0 rfl) ?_
          refine lv_bipush (v := 16) hx hb dX8_drift_54 hkb_16 ?_
          refine lv_ishr hx hb dX8_drift_56 ?_
          refine lv_sipush (v := 32767) hx hb dX8_drift_57 hkp_32767 ?_
          refine lv_iand hx hb dX8_drift_60 ?_
          obtain ⟨gt, hgt, egt⟩ := pk_andE (((vv * 1103515245) + 12345) >>> (16 &&& 31)) (m := 32767) 15 (by decide)
          refine hs_topi (nI gt) egt ?_
          refine lv_istore (lv' := [(7, .int (nI gt)), (4, .int ((vv * 1103515245) + 12345)), (6, .int (nI x6)), (5, .int sum), (0, .ref mo), (1, .int seed), (2, .int (nI N)), (3, .int what)]) hx hb dX8_drift_61 hl (Nat.le_of_ble_eq_true rfl) rfl (fun ls hl => ?_)
          refine lv_aload_n hx hb dX8_drift_63 rfl (lv_at hl 4 rfl) ?_
          refine va_get (D := D) (ci := 7) (v := .ref mo_at) (C := RX8) (T := TX8) (N := 32) hx hb hts hiX8 hown hK hP 0 rfl rfl 1 (Nat.le_of_ble_eq_true rfl) fl13 (fun _ h9 => h9) rfl dX8_drift_64 ?_
          refine lv_iconst (v := 1) hx hb dX8_drift_67 hki_1 ?_
          refine lv_iload hx hb dX8_drift_68 (lv_at hl 0 rfl) ?_
          refine lv_aload_n hx hb dX8_drift_70 rfl (lv_at hl 4 rfl) ?_
          refine va_get (D := D) (ci := 7) (v := .ref mo_at) (C := RX8) (T := TX8) (N := 32) hx hb hts hiX8 hown hK hP 0 rfl rfl 1 (Nat.le_of_ble_eq_true rfl) fl13 (fun _ h9 => h9) rfl dX8_drift_71 ?_
          refine lv_iconst (v := 0) hx hb dX8_drift_74 hki_0 ?_
          refine va_iald hx hb hK hP 2 0 rfl rfl (hs_in (by decide)) dX8_drift_75 ?_
          refine hs_topi (nI c0) ((hI.2 0 (by omega) (by omega)).trans e0) ?_
          refine lv_irem hx hb dX8_drift_76 (nI_ne0 (by omega) (by omega)) ?_
          have hgm := Nat.mod_lt gt (show 0 < c0 by omega)
          refine hs_topi (nI (gt % c0)) (pk_rem (by omega) (by omega) (by omega)) ?_
          refine lv_iadd hx hb dX8_drift_77 ?_
          refine hs_topi (nI (1 + (gt % c0))) (nI_add (1) ((gt % c0))) ?_
          refine lv_iload hx hb dX8_drift_78 (lv_at hl 0 rfl) ?_
          refine lv_bipush (v := 8) hx hb dX8_drift_80 hkb_8 ?_
          refine lv_idiv hx hb dX8_drift_82 (by decide) ?_
          refine lv_bipush (v := 10) hx hb dX8_drift_83 hkb_10 ?_
          refine lv_irem hx hb dX8_drift_85 (by decide) ?_
          refine va_iast hx hb hK hP hD hS 2 0 rfl rfl (vp_in_nI (show (1 + (gt % c0)) < 44 by omega) (by decide)) dX8_drift_86 (fun H locs hP hD hS => ?_)
          have hP : va_P D vwCl [_, _, oqI k mo_at 44 (upd ag ((nI (1 + (gt % c0))).toNatClampNeg) (((nI gt) / 8) - ((nI gt) / 8) / 10 * 10))] H := hP
          have hD : va_D A [_, _, oqI k mo_at 44 (upd ag ((nI (1 + (gt % c0))).toNatClampNeg) (((nI gt) / 8) - ((nI gt) / 8) / 10 * 10))] := hD
          have e0g := (hI.2 0 (by omega) (by omega)).trans e0
          have hJ := hI
          refine lv_iconst (v := 1) hx hb dX8_drift_87 hki_1 ?_
          refine lv_istore (lv' := [(8, .int 1), (7, .int (nI gt)), (4, .int ((vv * 1103515245) + 12345)), (6, .int (nI x6)), (5, .int sum), (0, .ref mo), (1, .int seed), (2, .int (nI N)), (3, .int what)]) hx hb dX8_drift_88 hl (Nat.le_of_ble_eq_true rfl) rfl (fun ls hl => ?_)
          refine hs_while (σ := Int32 × Nat) (fun x => x.2 ≤ c0 + 1) (fun x => c0 + 1 - x.2) (fun x => [oq7 mo mo_st mo_at mo_isKept (nI mo_pe) (nI mo_hm) mo_draft (nI mo_dp) (nI mo_dh) mo_toldLines mo_highest mo_tape (nI mo_tl) (nI mo_ps) (nI mo_fr) mo_sort mo_value (nI mo_ft) mo_wrongAt mo_row mo_orderMany (nI mo_fo) mo_lightest mo_heaviest mo_before mo_justSum mo_toldSum mo_allWays mo_lanes mo_sizes mo_cells mo_torn mo_had, oqI k mo_st 132 (sf), oqI k mo_at 44 (upd ag ((nI (1 + (gt % c0))).toNatClampNeg) (((nI gt) / 8) - ((nI gt) / 8) / 10 * 10))]) (fun x => [(8, .int (nI (x.2))), (7, .int (nI gt)), (4, .int ((vv * 1103515245) + 12345)), (6, .int (nI x6)), (5, .int (x.1)), (0, .ref mo), (1, .int seed), (2, .int (nI N)), (3, .int what)]) ?_ (sum, 1) ?_ hP hD hS hl
          · intro x hI ih90 H locs ls hP hD hS hl
            obtain ⟨sum2, x8⟩ := x
            try dsimp only at hI
            have hP : va_P D vwCl [_, _, _] H := hP
            have hD : va_D A [_, _, _] := hD
            have hl : lv_has ls 9 [(8, .int (nI x8)), (7, .int (nI gt)), (4, .int ((vv * 1103515245) + 12345)), (6, .int (nI x6)), (5, .int sum2), (0, .ref mo), (1, .int seed), (2, .int (nI N)), (3, .int what)] := hl
            refine lv_iload hx hb dX8_drift_90 (lv_at hl 0 rfl) ?_
            refine lv_aload_n hx hb dX8_drift_92 rfl (lv_at hl 5 rfl) ?_
            refine va_get (D := D) (ci := 7) (v := .ref mo_at) (C := RX8) (T := TX8) (N := 32) hx hb hts hiX8 hown hK hP 0 rfl rfl 1 (Nat.le_of_ble_eq_true rfl) fl13 (fun _ h9 => h9) rfl dX8_drift_93 ?_
            refine lv_iconst (v := 0) hx hb dX8_drift_96 hki_0 ?_
            refine va_iald hx hb hK hP 2 0 rfl rfl (hs_in (by decide)) dX8_drift_97 ?_
            refine hs_topi (nI c0) ((hs_uc (q := 0) (by omega) (by omega)).trans e0g) ?_
            refine lv_icmp_ge (tgt := 121) hx hb dX8_drift_98 rfl (fun c_17 => ?_) (fun c_17 => ?_)
            · have nc_17 : c0 ≤ x8 := (nI_leI (a := c0) (b := x8) (by omega) (by omega)).mp c_17
              refine lv_iinc (v := nI (x6 + 1)) (lv' := [(6, .int (nI (x6 + 1))), (8, .int (nI x8)), (7, .int (nI gt)), (4, .int ((vv * 1103515245) + 12345)), (5, .int sum2), (0, .ref mo), (1, .int seed), (2, .int (nI N)), (3, .int what)]) hx hb dX8_drift_121 hl (k := 3) rfl (nI_add (x6) 1) (Nat.le_of_ble_eq_true rfl) rfl (fun ls hl => ?_)
              refine lv_goto (tgt := 34) hx hb dX8_drift_124 rfl ?_
              exact ih34 ((vv * 1103515245) + 12345, sum2, x6 + 1, upd ag ((nI (1 + (gt % c0))).toNatClampNeg) (((nI gt) / 8) - ((nI gt) / 8) / 10 * 10)) (by (try dsimp only); exact ⟨by omega, fun q h1 h2 => by rw [hs_uc (by omega) (by omega)]; exact hJ.2 q h1 h2⟩) (by (try dsimp only); omega) _ _ _ hP hD hS (lv_sub hl [0, 4, 3, 5, 6, 7, 8] rfl)
            · have nc_17 : ¬ c0 ≤ x8 := fun hq9 => c_17 ((nI_leI (a := c0) (b := x8) (by omega) (by omega)).mpr hq9)
              refine lv_iload hx hb dX8_drift_101 (lv_at hl 4 rfl) ?_
              refine lv_aload_n hx hb dX8_drift_103 rfl (lv_at hl 5 rfl) ?_
              refine lv_iload hx hb dX8_drift_104 (lv_at hl 0 rfl) ?_
              refine hs_ciM (va_runV (As := [.int (nI x8)]) (rest := [.int sum2]) ⟨hx, hb, hml, hown, hts⟩ (gm_justTo l D k _ mo mo_st mo_at mo_isKept mo_pe mo_hm mo_draft mo_dp mo_dh mo_toldLines mo_highest mo_tape mo_tl mo_ps mo_fr mo_sort mo_value mo_ft mo_wrongAt mo_row mo_orderMany mo_fo mo_lightest mo_heaviest mo_before mo_justSum mo_toldSum mo_allWays mo_lanes mo_sizes mo_cells mo_torn mo_had (upd ag ((nI (1 + (gt % c0))).toNatClampNeg) (((nI gt) / 8) - ((nI gt) / 8) / 10 * 10)) c0 (nI x8) ((hs_uc (by omega) (by omega)).trans e0g) h0 hpe) (cwV 1 hts gX8_drift_X8_justTo rfl rfl rfl ⟨rfl, hq_X8_justTo⟩ ⟨Nat.le_of_ble_eq_true rfl, Nat.le_of_ble_eq_true rfl⟩) (hs_preV hK hN (hs_subP (w := [_, _]) hP [0, 2] rfl) (hD.sub (ws' := [_, _]) [0, 2] (hs_upnd rfl) rfl) (ci := 7) (q0 := 0) rfl rfl) rfl rfl hl.1 rfl (lv_room (Nat.le_of_ble_eq_true rfl)) dX8_drift_106 ⟨Nat.le_of_ble_eq_true rfl, Nat.le_of_ble_eq_true rfl⟩) hP hD hS hA [false, true, false] [_] [_, _] rfl [0, 1] rfl [0, 1] (fun u_20 => [_, _]) (fun _ => rfl) (hs_upnd rfl) [false, true, false] (fun u_20 => [_, _, _]) (fun _ => rfl) (fun r_18 u_20 H locs hw_19 hP hD hS => ?_)
              refine hs_pi (va_runS (As := [.int r_18]) (rest := [.int sum2]) ⟨hx, hb, hml, hown, hts⟩ (gm_bitsOf l D k _ r_18) (va_cwS 1 hts gX8_drift_X8_bitsOf rfl rfl rfl hq_X8_bitsOf ⟨Nat.le_of_ble_eq_true rfl, Nat.le_of_ble_eq_true rfl⟩) (hs_preS hK hN (hs_subP (w := []) hP [] rfl) (hD.sub (ws' := []) [] rfl rfl)) rfl rfl hl.1 rfl (lv_room (Nat.le_of_ble_eq_true rfl)) dX8_drift_109 ⟨Nat.le_of_ble_eq_true rfl, Nat.le_of_ble_eq_true rfl⟩) hP hD hS hA (fun r_21 u_23 H locs hw_22 hP hS => ?_)
              refine lv_iadd hx hb dX8_drift_112 ?_
              refine lv_istore (lv' := [(5, .int (sum2 + r_21)), (8, .int (nI x8)), (7, .int (nI gt)), (4, .int ((vv * 1103515245) + 12345)), (6, .int (nI x6)), (0, .ref mo), (1, .int seed), (2, .int (nI N)), (3, .int what)]) hx hb dX8_drift_113 hl (Nat.le_of_ble_eq_true rfl) rfl (fun ls hl => ?_)
              refine lv_iinc (v := nI (x8 + 1)) (lv' := [(8, .int (nI (x8 + 1))), (5, .int (sum2 + r_21)), (7, .int (nI gt)), (4, .int ((vv * 1103515245) + 12345)), (6, .int (nI x6)), (0, .ref mo), (1, .int seed), (2, .int (nI N)), (3, .int what)]) hx hb dX8_drift_115 hl (k := 1) rfl (nI_add (x8) 1) (Nat.le_of_ble_eq_true rfl) rfl (fun ls hl => ?_)
              refine lv_goto (tgt := 90) hx hb dX8_drift_118 rfl ?_
              exact ih90 (sum2 + r_21, x8 + 1) (by (try dsimp only); first | omega | (refine ⟨?_, ?_⟩ <;> first | omega | assumption)) (by (try dsimp only); omega) _ _ _ hP hD hS (lv_sub hl [0, 2, 3, 4, 1, 5, 6, 7, 8] rfl)
          · (try dsimp only); first | omega | (refine ⟨?_, ?_⟩ <;> first | omega | assumption)
      · (try dsimp only); exact ⟨by omega, fun q h1 _ => hw_10 q h1⟩
    · refine lv_iconst (v := (-1)) hx hb dX8_drift_19 hki_m1 ?_
      exact hs_iret hx hb hr hlocks hK hP hD hS af [0, 1, 2] rfl (hs_upnd rfl) dX8_drift_20 (trivial)
