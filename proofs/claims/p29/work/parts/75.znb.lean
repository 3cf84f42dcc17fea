set_option maxHeartbeats 4000000 in
set_option maxRecDepth 100000 in
theorem gqf_lay (l : Launch) (D : va_G) (k : Nat → ClassId) (sz : Nat) (mo : Nat) (mo_st : Nat) (mo_at : Nat) (mo_isKept : Nat) (mo_pe : Nat) (mo_hm : Nat) (mo_draft : Nat) (mo_dp : Nat) (mo_dh : Nat) (mo_toldLines : Int32) (mo_highest : Int32) (mo_tape : Nat) (mo_tl : Nat) (mo_ps : Nat) (mo_fr : Nat) (mo_sort : Int32) (mo_value : Int32) (mo_ft : Nat) (mo_wrongAt : Int32) (mo_row : Nat) (mo_orderMany : Int32) (mo_fo : Nat) (mo_lightest : Int32) (mo_heaviest : Int32) (mo_before : Nat) (mo_justSum : Int64) (mo_toldSum : Int64) (mo_allWays : Int64) (mo_lanes : Nat) (mo_sizes : Nat) (mo_cells : Nat) (mo_torn : Int32) (mo_had : Nat) (laf : Nat → Int32) (sif : Nat → Int32) (ce : Nat → Int32) (zs : Nat → Nat) (i : Int32) (a : Int32) (v : Int32) (hzs : ∀ k, k < 4 → sif k = nI (zs k) ∧ zs k ≤ 40) : MI l yX8_lay wsX8_lay ({ frames := 2, cells := 0, slots := 0, locals := 46 }) D k [.ref mo, .int i, .int a, .int v] [oq7 mo mo_st mo_at mo_isKept (nI mo_pe) (nI mo_hm) mo_draft (nI mo_dp) (nI mo_dh) mo_toldLines mo_highest mo_tape (nI mo_tl) (nI mo_ps) (nI mo_fr) mo_sort mo_value (nI mo_ft) mo_wrongAt mo_row mo_orderMany (nI mo_fo) mo_lightest mo_heaviest mo_before mo_justSum mo_toldSum mo_allWays mo_lanes mo_sizes mo_cells mo_torn mo_had, oqI k mo_lanes 4 (laf), oqI k mo_sizes 4 (sif), oqI k mo_cells 160 (ce)] sz (fun (r : Int32) (u : Nat → Int32) => r = (if hsin i 0 3 then A_laym (laf i.toNatClampNeg) (zs i.toNatClampNeg) a else -1) ∧ ((¬ r = 1 ∧ u = ce) ∨ (r = 1 ∧ ∃ k aj : Nat, k < 4 ∧ aj < zs k ∧ i = nI k ∧ a = nI aj ∧ u = upd ce (40 * k + aj) (lnV (laf k) v)))) (fun (u : Nat → Int32) => [oq7 mo mo_st mo_at mo_isKept (nI mo_pe) (nI mo_hm) mo_draft (nI mo_dp) (nI mo_dh) mo_toldLines mo_highest mo_tape (nI mo_tl) (nI mo_ps) (nI mo_fr) mo_sort mo_value (nI mo_ft) mo_wrongAt mo_row mo_orderMany (nI mo_fo) mo_lightest mo_heaviest mo_before mo_justSum mo_toldSum mo_allWays mo_lanes mo_sizes mo_cells mo_torn mo_had, oqI k mo_lanes 4 (laf), oqI k mo_sizes 4 (sif), oqI k mo_cells 160 (u)]) := by
  refine Met.ofW (cc := cX8_lay) (maxL := 4) (ret := (some .int)) hpn_X8 rfl ?_
  intro p e s m args below meth c s₁ B hml hv
  obtain ⟨rfl, hsz, hP, hK, hD0, hN⟩ := hv
  have hx := B.exec
  have hb := B.bytes
  have hr := B.returns
  have hlocks := B.notSynchronized
  have hts := atoms_spec (ws := wsX8_lay) B.pre
  have hown := findClass_of_methodNamed B.named
  have hown : s.vm.findClass RX8 = some m.cls := hown
  have hiX8 : ∀ w ∈ u_ws RX8 TX8 32, w ∈ wsX8_lay := fun w9 hw9 => List.mem_cons_of_mem _ (igX8 w9 hw9)
  have fl32 := hts (.fieldLink RX8 32 "HalfScalesModel" "lanes" "[I") (List.mem_cons_of_mem _ (hs_inG 4 107 rfl rfl))
  have fl35 := hts (.fieldLink RX8 35 "HalfScalesModel" "sizes" "[I") (List.mem_cons_of_mem _ (hs_inG 4 108 rfl rfl))
  have fl38 := hts (.fieldLink RX8 38 "HalfScalesModel" "cells" "[I") (List.mem_cons_of_mem _ (hs_inG 4 109 rfl rfl))
  subst hsz
  have hD := hD0.self (sz := s.heap.size)
  generalize hAe : va_A [oq7 mo mo_st mo_at mo_isKept (nI mo_pe) (nI mo_hm) mo_draft (nI mo_dp) (nI mo_dh) mo_toldLines mo_highest mo_tape (nI mo_tl) (nI mo_ps) (nI mo_fr) mo_sort mo_value (nI mo_ft) mo_wrongAt mo_row mo_orderMany (nI mo_fo) mo_lightest mo_heaviest mo_before mo_justSum mo_toldSum mo_allWays mo_lanes mo_sizes mo_cells mo_torn mo_had, oqI k mo_lanes 4 (laf), oqI k mo_sizes 4 (sif), oqI k mo_cells 160 (ce)] s.heap.size = A at hD ⊢
  have hA : ∀ q : Nat, s.heap.size ≤ q → A q := fun q h => by rw [← hAe]; exact Or.inr h
  have hS : va_S A s.heap s.heap [] := va_S.rf
  have hl := lv_entry ([.ref mo, .int i, .int a, .int v]) (n := 4) (Nat.le_of_ble_eq_true rfl)
  rw [lg_entry_eq]
  generalize (lg_sl ([.ref mo, .int i, .int a, .int v]) ++ List.replicate (4 - (lg_sl ([.ref mo, .int i, .int a, .int v])).length) Slot.unset).toArray = ls at hl ⊢
  have hl : lv_has ls 4 [(0, .ref mo), (1, .int i), (2, .int a), (3, .int v)] := hl
  have hP : va_P D vwCl [oq7 mo mo_st mo_at mo_isKept (nI mo_pe) (nI mo_hm) mo_draft (nI mo_dp) (nI mo_dh) mo_toldLines mo_highest mo_tape (nI mo_tl) (nI mo_ps) (nI mo_fr) mo_sort mo_value (nI mo_ft) mo_wrongAt mo_row mo_orderMany (nI mo_fo) mo_lightest mo_heaviest mo_before mo_justSum mo_toldSum mo_allWays mo_lanes mo_sizes mo_cells mo_torn mo_had, oqI k mo_lanes 4 (laf), oqI k mo_sizes 4 (sif), oqI k mo_cells 160 (ce)] s.heap := hP
  refine lv_iload_n hx hb dX8_lay_0 rfl (lv_at hl 1 rfl) ?_
  refine lv_iconst (v := 0) hx hb dX8_lay_1 hki_0 ?_
  refine hs_pi (va_runS (As := [.int i, .int 0]) (rest := []) ⟨hx, hb, hml, hown, hts⟩ (gm_isSheet l D k _ i 0) (va_cwS 2 hts gX8_lay_X8_isSheet rfl rfl rfl hq_X8_isSheet ⟨Nat.le_of_ble_eq_true rfl, Nat.le_of_ble_eq_true rfl⟩) (hs_preS hK hN (hs_subP (w := []) hP [] rfl) (hD.sub (ws' := []) [] rfl rfl)) rfl rfl hl.1 rfl (lv_room (Nat.le_of_ble_eq_true rfl)) dX8_lay_2 ⟨Nat.le_of_ble_eq_true rfl, Nat.le_of_ble_eq_true rfl⟩) hP hD hS hA (fun r_1 u_3 H locs hw_2 hP hS => ?_)
  refine hs_topi (hsb (hsin i 0 3 && hsin 0 0 2)) hw_2 ?_
  refine lv_if_ne (tgt := 10) hx hb dX8_lay_5 rfl (fun c_4 => ?_) (fun c_4 => ?_)
  · rcases hs_v03 <| hs_and1 (hs_nb c_4) with rfl | rfl | rfl | rfl
    · refine lv_aload_n hx hb dX8_lay_10 rfl (lv_at hl 0 rfl) ?_
      refine va_get (D := D) (ci := 7) (v := .ref mo_lanes) (C := RX8) (T := TX8) (N := 32) hx hb hts hiX8 hown hK hP 0 rfl rfl 27 (Nat.le_of_ble_eq_true rfl) fl32 (fun _ h9 => h9) rfl dX8_lay_11 ?_
      refine lv_iload_n hx hb dX8_lay_14 rfl (lv_at hl 1 rfl) ?_
      refine va_iald hx hb hK hP 1 0 rfl rfl (hs_in (by decide)) dX8_lay_15 ?_
      refine lv_bipush (v := (-4)) hx hb dX8_lay_16 hkb_m4 ?_
      refine lv_icmp_ne (tgt := 24) hx hb dX8_lay_18 rfl (fun c_5 => ?_) (fun c_5 => ?_)
      · refine lv_iload_n hx hb dX8_lay_24 rfl (lv_at hl 2 rfl) ?_
        refine lv_i2l hx hb dX8_lay_25 rfl ?_
        refine lv_lconst (v := 0) hx hb dX8_lay_26 (by decide) ?_
        refine lv_aload_n hx hb dX8_lay_27 rfl (lv_at hl 0 rfl) ?_
        refine va_get (D := D) (ci := 7) (v := .ref mo_sizes) (C := RX8) (T := TX8) (N := 32) hx hb hts hiX8 hown hK hP 0 rfl rfl 28 (Nat.le_of_ble_eq_true rfl) fl35 (fun _ h9 => h9) rfl dX8_lay_28 ?_
        refine lv_iload_n hx hb dX8_lay_31 rfl (lv_at hl 1 rfl) ?_
        refine va_iald hx hb hK hP 2 0 rfl rfl (hs_in (by decide)) dX8_lay_32 ?_
        have hzk := (hzs 0 (by decide)).2
        refine hs_topi (nI (zs 0)) ((hzs 0 (by decide)).1) ?_
        refine lv_iconst (v := 1) hx hb dX8_lay_33 hki_1 ?_
        refine lv_isub hx hb dX8_lay_34 ?_
        refine lv_i2l hx hb dX8_lay_35 rfl ?_
        refine hs_pi (va_runS (As := [.long (((a) : Int32).toInt64), .long 0, .long ((((nI (zs 0)) - 1) : Int32).toInt64)]) (rest := []) ⟨hx, hb, hml, hown, hts⟩ (gm_in l D k _ a 0 ((nI (zs 0)) - 1)) (va_cwS 3 hts gX8_lay_X8_in rfl rfl rfl hq_X8_in ⟨Nat.le_of_ble_eq_true rfl, Nat.le_of_ble_eq_true rfl⟩) (hs_preS hK hN (hs_subP (w := []) hP [] rfl) (hD.sub (ws' := []) [] rfl rfl)) rfl rfl hl.1 rfl (lv_room (Nat.le_of_ble_eq_true rfl)) dX8_lay_36 ⟨Nat.le_of_ble_eq_true rfl, Nat.le_of_ble_eq_true rfl⟩) hP hD hS hA (fun r_6 u_8 H locs hw_7 hP hS => ?_)
        refine hs_topi (hsb (hsin a 0 ((nI (zs 0)) - 1))) hw_7 ?_
        refine lv_if_ne (tgt := 45) hx hb dX8_lay_39 rfl (fun c_9 => ?_) (fun c_9 => ?_)
        · obtain ⟨aj, haj, rfl⟩ := hslt_ex ((hslt_in (by omega)).symm.trans (hs_nb c_9))
          refine lv_aload_n hx hb dX8_lay_45 rfl (lv_at hl 0 rfl) ?_
          refine va_get (D := D) (ci := 7) (v := .ref mo_cells) (C := RX8) (T := TX8) (N := 32) hx hb hts hiX8 hown hK hP 0 rfl rfl 29 (Nat.le_of_ble_eq_true rfl) fl38 (fun _ h9 => h9) rfl dX8_lay_46 ?_
          refine lv_bipush (v := 40) hx hb dX8_lay_49 hkb_40 ?_
          refine lv_iload_n hx hb dX8_lay_51 rfl (lv_at hl 1 rfl) ?_
          refine lv_imul hx hb dX8_lay_52 ?_
          refine hs_topi 0 (by first | rfl | decide +kernel) ?_
          refine lv_iload_n hx hb dX8_lay_53 rfl (lv_at hl 2 rfl) ?_
          refine lv_iadd hx hb dX8_lay_54 ?_
          refine hs_topi (nI (0 + aj)) (nI_add (0) (aj)) ?_
          refine lv_aload_n hx hb dX8_lay_55 rfl (lv_at hl 0 rfl) ?_
          refine va_get (D := D) (ci := 7) (v := .ref mo_lanes) (C := RX8) (T := TX8) (N := 32) hx hb hts hiX8 hown hK hP 0 rfl rfl 27 (Nat.le_of_ble_eq_true rfl) fl32 (fun _ h9 => h9) rfl dX8_lay_56 ?_
          refine lv_iload_n hx hb dX8_lay_59 rfl (lv_at hl 1 rfl) ?_
          refine va_iald hx hb hK hP 1 0 rfl rfl (hs_in (by decide)) dX8_lay_60 ?_
          refine lv_if_ne (tgt := 69) hx hb dX8_lay_61 rfl (fun c_10 => ?_) (fun c_10 => ?_)
          · refine lv_aload_n hx hb dX8_lay_69 rfl (lv_at hl 0 rfl) ?_
            refine va_get (D := D) (ci := 7) (v := .ref mo_lanes) (C := RX8) (T := TX8) (N := 32) hx hb hts hiX8 hown hK hP 0 rfl rfl 27 (Nat.le_of_ble_eq_true rfl) fl32 (fun _ h9 => h9) rfl dX8_lay_70 ?_
            refine lv_iload_n hx hb dX8_lay_73 rfl (lv_at hl 1 rfl) ?_
            refine va_iald hx hb hK hP 1 0 rfl rfl (hs_in (by decide)) dX8_lay_74 ?_
            refine lv_iconst (v := 1) hx hb dX8_lay_75 hki_1 ?_
            refine lv_icmp_ne (tgt := 84) hx hb dX8_lay_76 rfl (fun c_11 => ?_) (fun c_11 => ?_)
            · refine lv_iload_n hx hb dX8_lay_84 rfl (lv_at hl 3 rfl) ?_
              refine va_iast hx hb hK hP hD hS 3 0 rfl rfl (vp_in_nI (show (0 + aj) < 160 by omega) (by decide)) dX8_lay_85 (fun H locs hP hD hS => ?_)
              have hP : va_P D vwCl [oq7 mo mo_st mo_at mo_isKept (nI mo_pe) (nI mo_hm) mo_draft (nI mo_dp) (nI mo_dh) mo_toldLines mo_highest mo_tape (nI mo_tl) (nI mo_ps) (nI mo_fr) mo_sort mo_value (nI mo_ft) mo_wrongAt mo_row mo_orderMany (nI mo_fo) mo_lightest mo_heaviest mo_before mo_justSum mo_toldSum mo_allWays mo_lanes mo_sizes mo_cells mo_torn mo_had, oqI k mo_lanes 4 (laf), oqI k mo_sizes 4 (sif), oqI k mo_cells 160 (upd ce ((nI (0 + aj)).toNatClampNeg) v)] H := hP
              have hD : va_D A [oq7 mo mo_st mo_at mo_isKept (nI mo_pe) (nI mo_hm) mo_draft (nI mo_dp) (nI mo_dh) mo_toldLines mo_highest mo_tape (nI mo_tl) (nI mo_ps) (nI mo_fr) mo_sort mo_value (nI mo_ft) mo_wrongAt mo_row mo_orderMany (nI mo_fo) mo_lightest mo_heaviest mo_before mo_justSum mo_toldSum mo_allWays mo_lanes mo_sizes mo_cells mo_torn mo_had, oqI k mo_lanes 4 (laf), oqI k mo_sizes 4 (sif), oqI k mo_cells 160 (upd ce ((nI (0 + aj)).toNatClampNeg) v)] := hD
              refine lv_iconst (v := 1) hx hb dX8_lay_86 hki_1 ?_
              exact hs_iret hx hb hr hlocks hK hP hD hS (upd ce ((nI (0 + aj)).toNatClampNeg) v) [0, 1, 2, 3] rfl (hs_upnd rfl) dX8_lay_87 (⟨(show (1 : Int32) = A_laym (laf 0) (zs 0) _ by rw [A_laym, if_neg (show ¬ laf 0 = -4 from c_5), ← hslt_in (by omega), if_pos (hs_nb c_9)]), Or.inr ⟨rfl, 0, aj, by decide, haj, rfl, rfl, (by (try dsimp only); rw [nI_clamp (by omega), lnV, if_neg (show ¬ laf 0 = 0 from c_10), if_neg (show ¬ laf 0 = 1 from c_11)])⟩⟩)
            · refine lv_iload_n hx hb dX8_lay_79 rfl (lv_at hl 3 rfl) ?_
              refine lv_i2s hx hb dX8_lay_80 rfl ?_
              refine lv_goto (tgt := 85) hx hb dX8_lay_81 rfl ?_
              refine va_iast hx hb hK hP hD hS 3 0 rfl rfl (vp_in_nI (show (0 + aj) < 160 by omega) (by decide)) dX8_lay_85 (fun H locs hP hD hS => ?_)
              have hP : va_P D vwCl [_, _, _, oqI k mo_cells 160 (upd ce ((nI (0 + aj)).toNatClampNeg) (((v) : Int32).toInt16.toInt32))] H := hP
              have hD : va_D A [_, _, _, oqI k mo_cells 160 (upd ce ((nI (0 + aj)).toNatClampNeg) (((v) : Int32).toInt16.toInt32))] := hD
              refine lv_iconst (v := 1) hx hb dX8_lay_86 hki_1 ?_
              exact hs_iret hx hb hr hlocks hK hP hD hS (upd ce ((nI (0 + aj)).toNatClampNeg) (((v) : Int32).toInt16.toInt32)) [0, 1, 2, 3] rfl (hs_upnd rfl) dX8_lay_87 (⟨(show (1 : Int32) = A_laym (laf 0) (zs 0) _ by rw [A_laym, if_neg (show ¬ laf 0 = -4 from c_5), ← hslt_in (by omega), if_pos (hs_nb c_9)]), Or.inr ⟨rfl, 0, aj, by decide, haj, rfl, rfl, (by (try dsimp only); rw [nI_clamp (by omega), lnV, if_neg (show ¬ laf 0 = 0 from c_10), if_pos (show laf 0 = 1 from c_11)])⟩⟩)
          · refine lv_iload_n hx hb dX8_lay_64 rfl (lv_at hl 3 rfl) ?_
            refine lv_i2b hx hb dX8_lay_65 rfl ?_
            refine lv_goto (tgt := 85) hx hb dX8_lay_66 rfl ?_
            refine va_iast hx hb hK hP hD hS 3 0 rfl rfl (vp_in_nI (show (0 + aj) < 160 by omega) (by decide)) dX8_lay_85 (fun H locs hP hD hS => ?_)
            have hP : va_P D vwCl [_, _, _, oqI k mo_cells 160 (upd ce ((nI (0 + aj)).toNatClampNeg) (((v) : Int32).toInt8.toInt32))] H := hP
            have hD : va_D A [_, _, _, oqI k mo_cells 160 (upd ce ((nI (0 + aj)).toNatClampNeg) (((v) : Int32).toInt8.toInt32))] := hD
            refine lv_iconst (v := 1) hx hb dX8_lay_86 hki_1 ?_
            exact hs_iret hx hb hr hlocks hK hP hD hS (upd ce ((nI (0 + aj)).toNatClampNeg) (((v) : Int32).toInt8.toInt32)) [0, 1, 2, 3] rfl (hs_upnd rfl) dX8_lay_87 (⟨(show (1 : Int32) = A_laym (laf 0) (zs 0) _ by rw [A_laym, if_neg (show ¬ laf 0 = -4 from c_5), ← hslt_in (by omega), if_pos (hs_nb c_9)]), Or.inr ⟨rfl, 0, aj, by decide, haj, rfl, rfl, (by (try dsimp only); rw [nI_clamp (by omega), lnV, if_pos (show laf 0 = 0 from c_10)])⟩⟩)
        · refine lv_bipush (v := (-12)) hx hb dX8_lay_42 hkb_m12 ?_
          exact hs_iret hx hb hr hlocks hK hP hD hS ce [0, 1, 2, 3] rfl (hs_upnd rfl) dX8_lay_44 (⟨(show (-12 : Int32) = A_laym (laf 0) (zs 0) _ by rw [A_laym, if_neg (show ¬ laf 0 = -4 from c_5), ← hslt_in (by omega), hs_n0 c_9]; rfl), Or.inl ⟨by decide, rfl⟩⟩)
      · refine lv_bipush (v := (-11)) hx hb dX8_lay_21 hkb_m11 ?_
        exact hs_iret hx hb hr hlocks hK hP hD hS ce [0, 1, 2, 3] rfl (hs_upnd rfl) dX8_lay_23 (⟨(show (-11 : Int32) = A_laym (laf 0) (zs 0) _ by rw [A_laym, if_pos (show laf 0 = -4 from c_5)]), Or.inl ⟨by decide, rfl⟩⟩)
    · refine lv_aload_n hx hb dX8_lay_10 rfl (lv_at hl 0 rfl) ?_
      refine va_get (D := D) (ci := 7) (v := .ref mo_lanes) (C := RX8) (T := TX8) (N := 32) hx hb hts hiX8 hown hK hP 0 rfl rfl 27 (Nat.le_of_ble_eq_true rfl) fl32 (fun _ h9 => h9) rfl dX8_lay_11 ?_
      refine lv_iload_n hx hb dX8_lay_14 rfl (lv_at hl 1 rfl) ?_
      refine va_iald hx hb hK hP 1 0 rfl rfl (hs_in (by decide)) dX8_lay_15 ?_
      refine lv_bipush (v := (-4)) hx hb dX8_lay_16 hkb_m4 ?_
      refine lv_icmp_ne (tgt := 24) hx hb dX8_lay_18 rfl (fun c_12 => ?_) (fun c_12 => ?_)
      · refine lv_iload_n hx hb dX8_lay_24 rfl (lv_at hl 2 rfl) ?_
        refine lv_i2l hx hb dX8_lay_25 rfl ?_
        refine lv_lconst (v := 0) hx hb dX8_lay_26 (by decide) ?_
        refine lv_aload_n hx hb dX8_lay_27 rfl (lv_at hl 0 rfl) ?_
        refine va_get (D := D) (ci := 7) (v := .ref mo_sizes) (C := RX8) (T := TX8) (N := 32) hx hb hts hiX8 hown hK hP 0 rfl rfl 28 (Nat.le_of_ble_eq_true rfl) fl35 (fun _ h9 => h9) rfl dX8_lay_28 ?_
        refine lv_iload_n hx hb dX8_lay_31 rfl (lv_at hl 1 rfl) ?_
        refine va_iald hx hb hK hP 2 0 rfl rfl (hs_in (by decide)) dX8_lay_32 ?_
        have hzk := (hzs 1 (by decide)).2
        refine hs_topi (nI (zs 1)) ((hzs 1 (by decide)).1) ?_
        refine lv_iconst (v := 1) hx hb dX8_lay_33 hki_1 ?_
        refine lv_isub hx hb dX8_lay_34 ?_
        refine lv_i2l hx hb dX8_lay_35 rfl ?_
        refine hs_pi (va_runS (As := [.long (((a) : Int32).toInt64), .long 0, .long ((((nI (zs 1)) - 1) : Int32).toInt64)]) (rest := []) ⟨hx, hb, hml, hown, hts⟩ (gm_in l D k _ a 0 ((nI (zs 1)) - 1)) (va_cwS 3 hts gX8_lay_X8_in rfl rfl rfl hq_X8_in ⟨Nat.le_of_ble_eq_true rfl, Nat.le_of_ble_eq_true rfl⟩) (hs_preS hK hN (hs_subP (w := []) hP [] rfl) (hD.sub (ws' := []) [] rfl rfl)) rfl rfl hl.1 rfl (lv_room (Nat.le_of_ble_eq_true rfl)) dX8_lay_36 ⟨Nat.le_of_ble_eq_true rfl, Nat.le_of_ble_eq_true rfl⟩) hP hD hS hA (fun r_13 u_15 H locs hw_14 hP hS => ?_)
        refine hs_topi (hsb (hsin a 0 ((nI (zs 1)) - 1))) hw_14 ?_
        refine lv_if_ne (tgt := 45) hx hb dX8_lay_39 rfl (fun c_16 => ?_) (fun c_16 => ?_)
        · obtain ⟨aj, haj, rfl⟩ := hslt_ex ((hslt_in (by omega)).symm.trans (hs_nb c_16))
          refine lv_aload_n hx hb dX8_lay_45 rfl (lv_at hl 0 rfl) ?_
          refine va_get (D := D) (ci := 7) (v := .ref mo_cells) (C := RX8) (T := TX8) (N := 32) hx hb hts hiX8 hown hK hP 0 rfl rfl 29 (Nat.le_of_ble_eq_true rfl) fl38 (fun _ h9 => h9) rfl dX8_lay_46 ?_
          refine lv_bipush (v := 40) hx hb dX8_lay_49 hkb_40 ?_
          refine lv_iload_n hx hb dX8_lay_51 rfl (lv_at hl 1 rfl) ?_
          refine lv_imul hx hb dX8_lay_52 ?_
          refine hs_topi 40 (by first | rfl | decide +kernel) ?_
          refine lv_iload_n hx hb dX8_lay_53 rfl (lv_at hl 2 rfl) ?_
          refine lv_iadd hx hb dX8_lay_54 ?_
          refine hs_topi (nI (40 + aj)) (nI_add (40) (aj)) ?_
          refine lv_aload_n hx hb dX8_lay_55 rfl (lv_at hl 0 rfl) ?_
          refine va_get (D := D) (ci := 7) (v := .ref mo_lanes) (C := RX8) (T := TX8) (N := 32) hx hb hts hiX8 hown hK hP 0 rfl rfl 27 (Nat.le_of_ble_eq_true rfl) fl32 (fun _ h9 => h9) rfl dX8_lay_56 ?_
          refine lv_iload_n hx hb dX8_lay_59 rfl (lv_at hl 1 rfl) ?_
          refine va_iald hx hb hK hP 1 0 rfl rfl (hs_in (by decide)) dX8_lay_60 ?_
          refine lv_if_ne (tgt := 69) hx hb dX8_lay_61 rfl (fun c_17 => ?_) (fun c_17 => ?_)
          · refine lv_aload_n hx hb dX8_lay_69 rfl (lv_at hl 0 rfl) ?_
            refine va_get (D := D) (ci := 7) (v := .ref mo_lanes) (C := RX8) (T := TX8) (N := 32) hx hb hts hiX8 hown hK hP 0 rfl rfl 27 (Nat.le_of_ble_eq_true rfl) fl32 (fun _ h9 => h9) rfl dX8_lay_70 ?_
            refine lv_iload_n hx hb dX8_lay_73 rfl (lv_at hl 1 rfl) ?_
            refine va_iald hx hb hK hP 1 0 rfl rfl (hs_in (by decide)) dX8_lay_74 ?_
            refine lv_iconst (v := 1) hx hb dX8_lay_75 hki_1 ?_
            refine lv_icmp_ne (tgt := 84) hx hb dX8_lay_76 rfl (fun c_18 => ?_) (fun c_18 => ?_)
            · refine lv_iload_n hx hb dX8_lay_84 rfl (lv_at hl 3 rfl) ?_
              refine va_iast hx hb hK hP hD hS 3 0 rfl rfl (vp_in_nI (show (40 + aj) < 160 by omega) (by decide)) dX8_lay_85 (fun H locs hP hD hS => ?_)
              have hP : va_P D vwCl [_, _, _, oqI k mo_cells 160 (upd ce ((nI (40 + aj)).toNatClampNeg) v)] H := hP
              have hD : va_D A [_, _, _, oqI k mo_cells 160 (upd ce ((nI (40 + aj)).toNatClampNeg) v)] := hD
              refine lv_iconst (v := 1) hx hb dX8_lay_86 hki_1 ?_
              exact hs_iret hx hb hr hlocks hK hP hD hS (upd ce ((nI (40 + aj)).toNatClampNeg) v) [0, 1, 2, 3] rfl (hs_upnd rfl) dX8_lay_87 (⟨(show (1 : Int32) = A_laym (laf 1) (zs 1) _ by rw [A_laym, if_neg (show ¬ laf 1 = -4 from c_12), ← hslt_in (by omega), if_pos (hs_nb c_16)]), Or.inr ⟨rfl, 1, aj, by decide, haj, rfl, rfl, (by (try dsimp only); rw [nI_clamp (by omega), lnV, if_neg (show ¬ laf 1 = 0 from c_17), if_neg (show ¬ laf 1 = 1 from c_18)])⟩⟩)
            · refine lv_iload_n hx hb dX8_lay_79 rfl (lv_at hl 3 rfl) ?_
              refine lv_i2s hx hb dX8_lay_80 rfl ?_
              refine lv_goto (tgt := 85) hx hb dX8_lay_81 rfl ?_
              refine va_iast hx hb hK hP hD hS 3 0 rfl rfl (vp_in_nI (show (40 + aj) < 160 by omega) (by decide)) dX8_lay_85 (fun H locs hP hD hS => ?_)
              have hP : va_P D vwCl [_, _, _, oqI k mo_cells 160 (upd ce ((nI (40 + aj)).toNatClampNeg) (((v) : Int32).toInt16.toInt32))] H := hP
              have hD : va_D A [_, _, _, oqI k mo_cells 160 (upd ce ((nI (40 + aj)).toNatClampNeg) (((v) : Int32).toInt16.toInt32))] := hD
              refine lv_iconst (v := 1) hx hb dX8_lay_86 hki_1 ?_
              exact hs_iret hx hb hr hlocks hK hP hD hS (upd ce ((nI (40 + aj)).toNatClampNeg) (((v) : Int32).toInt16.toInt32)) [0, 1, 2, 3] rfl (hs_upnd rfl) dX8_lay_87 (⟨(show (1 : Int32) = A_laym (laf 1) (zs 1) _ by rw [A_laym, if_neg (show ¬ laf 1 = -4 from c_12), ← hslt_in (by omega), if_pos (hs_nb c_16)]), Or.inr ⟨rfl, 1, aj, by decide, haj, rfl, rfl, (by (try dsimp only); rw [nI_clamp (by omega), lnV, if_neg (show ¬ laf 1 = 0 from c_17), if_pos (show laf 1 = 1 from c_18)])⟩⟩)
          · refine lv_iload_n hx hb dX8_lay_64 rfl (lv_at hl 3 rfl) ?_
            refine lv_i2b hx hb dX8_lay_65 rfl ?_
            refine lv_goto (tgt := 85) hx hb dX8_lay_66 rfl ?_
            refine va_iast hx hb hK hP hD hS 3 0 rfl rfl (vp_in_nI (show (40 + aj) < 160 by omega) (by decide)) dX8_lay_85 (fun H locs hP hD hS => ?_)
            have hP : va_P D vwCl [_, _, _, oqI k mo_cells 160 (upd ce ((nI (40 + aj)).toNatClampNeg) (((v) : Int32).toInt8.toInt32))] H := hP
            have hD : va_D A [_, _, _, oqI k mo_cells 160 (upd ce ((nI (40 + aj)).toNatClampNeg) (((v) : Int32).toInt8.toInt32))] := hD
            refine lv_iconst (v := 1) hx hb dX8_lay_86 hki_1 ?_
            exact hs_iret hx hb hr hlocks hK hP hD hS (upd ce ((nI (40 + aj)).toNatClampNeg) (((v) : Int32).toInt8.toInt32)) [0, 1, 2, 3] rfl (hs_upnd rfl) dX8_lay_87 (⟨(show (1 : Int32) = A_laym (laf 1) (zs 1) _ by rw [A_laym, if_neg (show ¬ laf 1 = -4 from c_12), ← hslt_in (by omega), if_pos (hs_nb c_16)]), Or.inr ⟨rfl, 1, aj, by decide, haj, rfl, rfl, (by (try dsimp only); rw [nI_clamp (by omega), lnV, if_pos (show laf 1 = 0 from c_17)])⟩⟩)
        · refine lv_bipush (v := (-12)) hx hb dX8_lay_42 hkb_m12 ?_
          exact hs_iret hx hb hr hlocks hK hP hD hS ce [0, 1, 2, 3] rfl (hs_upnd rfl) dX8_lay_44 (⟨(show (-12 : Int32) = A_laym (laf 1) (zs 1) _ by rw [A_laym, if_neg (show ¬ laf 1 = -4 from c_12), ← hslt_in (by omega), hs_n0 c_16]; rfl), Or.inl ⟨by decide, rfl⟩⟩)
      · refine lv_bipush (v := (-11)) hx hb dX8_lay_21 hkb_m11 ?_
        exact hs_iret hx hb hr hlocks hK hP hD hS ce [0, 1, 2, 3] rfl (hs_upnd rfl) dX8_lay_23 (⟨(show (-11 : Int32) = A_laym (laf 1) (zs 1) _ by rw [A_laym, if_pos (show laf 1 = -4 from c_12)]), Or.inl ⟨by decide, rfl⟩⟩)
    · refine lv_aload_n hx hb dX8_lay_10 rfl (lv_at hl 0 rfl) ?_
      refine va_get (D := D) (ci := 7) (v := .ref mo_lanes) (C := RX8) (T := TX8) (N := 32) hx hb hts hiX8 hown hK hP 0 rfl rfl 27 (Nat.le_of_ble_eq_true rfl) fl32 (fun _ h9 => h9) rfl dX8_lay_11 ?_
      refine lv_iload_n hx hb dX8_lay_14 rfl (lv_at hl 1 rfl) ?_
      refine va_iald hx hb hK hP 1 0 rfl rfl (hs_in (by decide)) dX8_lay_15 ?_
      refine lv_bipush (v := (-4)) hx hb dX8_lay_16 hkb_m4 ?_
      refine lv_icmp_ne (tgt := 24) hx hb dX8_lay_18 rfl (fun c_19 => ?_) (fun c_19 => ?_)
      · refine lv_iload_n hx hb dX8_lay_24 rfl (lv_at hl 2 rfl) ?_
        refine lv_i2l hx hb dX8_lay_25 rfl ?_
        refine lv_lconst (v := 0) hx hb dX8_lay_26 (by decide) ?_
        refine lv_aload_n hx hb dX8_lay_27 rfl (lv_at hl 0 rfl) ?_
        refine va_get (D := D) (ci := 7) (v := .ref mo_sizes) (C := RX8) (T := TX8) (N := 32) hx hb hts hiX8 hown hK hP 0 rfl rfl 28 (Nat.le_of_ble_eq_true rfl) fl35 (fun _ h9 => h9) rfl dX8_lay_28 ?_
        refine lv_iload_n hx hb dX8_lay_31 rfl (lv_at hl 1 rfl) ?_
        refine va_iald hx hb hK hP 2 0 rfl rfl (hs_in (by decide)) dX8_lay_32 ?_
        have hzk := (hzs 2 (by decide)).2
        refine hs_topi (nI (zs 2)) ((hzs 2 (by decide)).1) ?_
        refine lv_iconst (v := 1) hx hb dX8_lay_33 hki_1 ?_
        refine lv_isub hx hb dX8_lay_34 ?_
        refine lv_i2l hx hb dX8_lay_35 rfl ?_
        refine hs_pi (va_runS (As := [.long (((a) : Int32).toInt64), .long 0, .long ((((nI (zs 2)) - 1) : Int32).toInt64)]) (rest := []) ⟨hx, hb, hml, hown, hts⟩ (gm_in l D k _ a 0 ((nI (zs 2)) - 1)) (va_cwS 3 hts gX8_lay_X8_in rfl rfl rfl hq_X8_in ⟨Nat.le_of_ble_eq_true rfl, Nat.le_of_ble_eq_true rfl⟩) (hs_preS hK hN (hs_subP (w := []) hP [] rfl) (hD.sub (ws' := []) [] rfl rfl)) rfl rfl hl.1 rfl (lv_room (Nat.le_of_ble_eq_true rfl)) dX8_lay_36 ⟨Nat.le_of_ble_eq_true rfl, Nat.le_of_ble_eq_true rfl⟩) hP hD hS hA (fun r_20 u_22 H locs hw_21 hP hS => ?_)
        refine hs_topi (hsb (hsin a 0 ((nI (zs 2)) - 1))) hw_21 ?_
        refine lv_if_ne (tgt := 45) hx hb dX8_lay_39 rfl (fun c_23 => ?_) (fun c_23 => ?_)
        · obtain ⟨aj, haj, rfl⟩ := hslt_ex ((hslt_in (by omega)).symm.trans (hs_nb c_23))
          refine lv_aload_n hx hb dX8_lay_45 rfl (lv_at hl 0 rfl) ?_
          refine va_get (D := D) (ci := 7) (v := .ref mo_cells) (C := RX8) (T := TX8) (N := 32) hx hb hts hiX8 hown hK hP 0 rfl rfl 29 (Nat.le_of_ble_eq_true rfl) fl38 (fun _ h9 => h9) rfl dX8_lay_46 ?_
          refine lv_bipush (v := 40) hx hb dX8_lay_49 hkb_40 ?_
          refine lv_iload_n hx hb dX8_lay_51 rfl (lv_at hl 1 rfl) ?_
          refine lv_imul hx hb dX8_lay_52 ?_
          refine hs_topi 80 (by first | rfl | decide +kernel) ?_
          refine lv_iload_n hx hb dX8_lay_53 rfl (lv_at hl 2 rfl) ?_
          refine lv_iadd hx hb dX8_lay_54 ?_
          refine hs_topi (nI (80 + aj)) (nI_add (80) (aj)) ?_
          refine lv_aload_n hx hb dX8_lay_55 rfl (lv_at hl 0 rfl) ?_
          refine va_get (D := D) (ci := 7) (v := .ref mo_lanes) (C := RX8) (T := TX8) (N := 32) hx hb hts hiX8 hown hK hP 0 rfl rfl 27 (Nat.le_of_ble_eq_true rfl) fl32 (fun _ h9 => h9) rfl dX8_lay_56 ?_
          refine lv_iload_n hx hb dX8_lay_59 rfl (lv_at hl 1 rfl) ?_
          refine va_iald hx hb hK hP 1 0 rfl rfl (hs_in (by decide)) dX8_lay_60 ?_
          refine lv_if_ne (tgt := 69) hx hb dX8_lay_61 rfl (fun c_24 => ?_) (fun c_24 => ?_)
          · refine lv_aload_n hx hb dX8_lay_69 rfl (lv_at hl 0 rfl) ?_
            refine va_get (D := D) (ci := 7) (v := .ref mo_lanes) (C := RX8) (T := TX8) (N := 32) hx hb hts hiX8 hown hK hP 0 rfl rfl 27 (Nat.le_of_ble_eq_true rfl) fl32 (fun _ h9 => h9) rfl dX8_lay_70 ?_
            refine lv_iload_n hx hb dX8_lay_73 rfl (lv_at hl 1 rfl) ?_
            refine va_iald hx hb hK hP 1 0 rfl rfl (hs_in (by decide)) dX8_lay_74 ?_
            refine lv_iconst (v := 1) hx hb dX8_lay_75 hki_1 ?_
            refine lv_icmp_ne (tgt := 84) hx hb dX8_lay_76 rfl (fun c_25 => ?_) (fun c_25 => ?_)
            · refine lv_iload_n hx hb dX8_lay_84 rfl (lv_at hl 3 rfl) ?_
              refine va_iast hx hb hK hP hD hS 3 0 rfl rfl (vp_in_nI (show (80 + aj) < 160 by omega) (by decide)) dX8_lay_85 (fun H locs hP hD hS => ?_)
              have hP : va_P D vwCl [_, _, _, oqI k mo_cells 160 (upd ce ((nI (80 + aj)).toNatClampNeg) v)] H := hP
              have hD : va_D A [_, _, _, oqI k mo_cells 160 (upd ce ((nI (80 + aj)).toNatClampNeg) v)] := hD
              refine lv_iconst (v := 1) hx hb dX8_lay_86 hki_1 ?_
              exact hs_iret hx hb hr hlocks hK hP hD hS (upd ce ((nI (80 + aj)).toNatClampNeg) v) [0, 1, 2, 3] rfl (hs_upnd rfl) dX8_lay_87 (⟨(show (1 : Int32) = A_laym (laf 2) (zs 2) _ by rw [A_laym, if_neg (show ¬ laf 2 = -4 from c_19), ← hslt_in (by omega), if_pos (hs_nb c_23)]), Or.inr ⟨rfl, 2, aj, by decide, haj, rfl, rfl, (by (try dsimp only); rw [nI_clamp (by omega), lnV, if_neg (show ¬ laf 2 = 0 from c_24), if_neg (show ¬ laf 2 = 1 from c_25)])⟩⟩)
            · refine lv_iload_n hx hb dX8_lay_79 rfl (lv_at hl 3 rfl) ?_
              refine lv_i2s hx hb dX8_lay_80 rfl ?_
              refine lv_goto (tgt := 85) hx hb dX8_lay_81 rfl ?_
              refine va_iast hx hb hK hP hD hS 3 0 rfl rfl (vp_in_nI (show (80 + aj) < 160 by omega) (by decide)) dX8_lay_85 (fun H locs hP hD hS => ?_)
              have hP : va_P D vwCl [_, _, _, oqI k mo_cells 160 (upd ce ((nI (80 + aj)).toNatClampNeg) (((v) : Int32).toInt16.toInt32))] H := hP
              have hD : va_D A [_, _, _, oqI k mo_cells 160 (upd ce ((nI (80 + aj)).toNatClampNeg) (((v) : Int32).toInt16.toInt32))] := hD
              refine lv_iconst (v := 1) hx hb dX8_lay_86 hki_1 ?_
              exact hs_iret hx hb hr hlocks hK hP hD hS (upd ce ((nI (80 + aj)).toNatClampNeg) (((v) : Int32).toInt16.toInt32)) [0, 1, 2, 3] rfl (hs_upnd rfl) dX8_lay_87 (⟨(show (1 : Int32) = A_laym (laf 2) (zs 2) _ by rw [A_laym, if_neg (show ¬ laf 2 = -4 from c_19), ← hslt_in (by omega), if_pos (hs_nb c_23)]), Or.inr ⟨rfl, 2, aj, by decide, haj, rfl, rfl, (by (try dsimp only); rw [nI_clamp (by omega), lnV, if_neg (show ¬ laf 2 = 0 from c_24), if_pos (show laf 2 = 1 from c_25)])⟩⟩)
          · refine lv_iload_n hx hb dX8_lay_64 rfl (lv_at hl 3 rfl) ?_
            refine lv_i2b hx hb dX8_lay_65 rfl ?_
            refine lv_goto (tgt := 85) hx hb dX8_lay_66 rfl ?_
            refine va_iast hx hb hK hP hD hS 3 0 rfl rfl (vp_in_nI (show (80 + aj) < 160 by omega) (by decide)) dX8_lay_85 (fun H locs hP hD hS => ?_)
            have hP : va_P D vwCl [_, _, _, oqI k mo_cells 160 (upd ce ((nI (80 + aj)).toNatClampNeg) (((v) : Int32).toInt8.toInt32))] H := hP
            have hD : va_D A [_, _, _, oqI k mo_cells 160 (upd ce ((nI (80 + aj)).toNatClampNeg) (((v) : Int32).toInt8.toInt32))] := hD
            refine lv_iconst (v := 1) hx hb dX8_lay_86 hki_1 ?_
            exact hs_iret hx hb hr hlocks hK hP hD hS (upd ce ((nI (80 + aj)).toNatClampNeg) (((v) : Int32).toInt8.toInt32)) [0, 1, 2, 3] rfl (hs_upnd rfl) dX8_lay_87 (⟨(show (1 : Int32) = A_laym (laf 2) (zs 2) _ by rw [A_laym, if_neg (show ¬ laf 2 = -4 from c_19), ← hslt_in (by omega), if_pos (hs_nb c_23)]), Or.inr ⟨rfl, 2, aj, by decide, haj, rfl, rfl, (by (try dsimp only); rw [nI_clamp (by omega), lnV, if_pos (show laf 2 = 0 from c_24)])⟩⟩)
        · refine lv_bipush (v := (-12)) hx hb dX8_lay_42 hkb_m12 ?_
          exact hs_iret hx hb hr hlocks hK hP hD hS ce [0, 1, 2, 3] rfl (hs_upnd rfl) dX8_lay_44 (⟨(show (-12 : Int32) = A_laym (laf 2) (zs 2) _ by rw [A_laym, if_neg (show ¬ laf 2 = -4 from c_19), ← hslt_in (by omega), hs_n0 c_23]; rfl), Or.inl ⟨by decide, rfl⟩⟩)
      · refine lv_bipush (v := (-11)) hx hb dX8_lay_21 hkb_m11 ?_
        exact hs_iret hx hb hr hlocks hK hP hD hS ce [0, 1, 2, 3] rfl (hs_upnd rfl) dX8_lay_23 (⟨(show (-11 : Int32) = A_laym (laf 2) (zs 2) _ by rw [A_laym, if_pos (show laf 2 = -4 from c_19)]), Or.inl ⟨by decide, rfl⟩⟩)
    · refine lv_aload_n hx hb dX8_lay_10 rfl (lv_at hl 0 rfl) ?_
      refine va_get (D := D) (ci := 7) (v := .ref mo_lanes) (C := RX8) (T := TX8) (N := 32) hx hb hts hiX8 hown hK hP 0 rfl rfl 27 (Nat.le_of_ble_eq_true rfl) fl32 (fun _ h9 => h9) rfl dX8_lay_11 ?_
      refine lv_iload_n hx hb dX8_lay_14 rfl (lv_at hl 1 rfl) ?_
      refine va_iald hx hb hK hP 1 0 rfl rfl (hs_in (by decide)) dX8_lay_15 ?_
      refine lv_bipush (v := (-4)) hx hb dX8_lay_16 hkb_m4 ?_
      refine lv_icmp_ne (tgt := 24) hx hb dX8_lay_18 rfl (fun c_26 => ?_) (fun c_26 => ?_)
      · refine lv_iload_n hx hb dX8_lay_24 rfl (lv_at hl 2 rfl) ?_
        refine lv_i2l hx hb dX8_lay_25 rfl ?_
        refine lv_lconst (v := 0) hx hb dX8_lay_26 (by decide) ?_
        refine lv_aload_n hx hb dX8_lay_27 rfl (lv_at hl 0 rfl) ?_
        refine va_get (D := D) (ci := 7) (v := .ref mo_sizes) (C := RX8) (T := TX8) (N := 32) hx hb hts hiX8 hown hK hP 0 rfl rfl 28 (Nat.le_of_ble_eq_true rfl) fl35 (fun _ h9 => h9) rfl dX8_lay_28 ?_
        refine lv_iload_n hx hb dX8_lay_31 rfl (lv_at hl 1 rfl) ?_
        refine va_iald hx hb hK hP 2 0 rfl rfl (hs_in (by decide)) dX8_lay_32 ?_
        have hzk := (hzs 3 (by decide)).2
        refine hs_topi (nI (zs 3)) ((hzs 3 (by decide)).1) ?_
        refine lv_iconst (v := 1) hx hb dX8_lay_33 hki_1 ?_
        refine lv_isub hx hb dX8_lay_34 ?_
        refine lv_i2l hx hb dX8_lay_35 rfl ?_
        refine hs_pi (va_runS (As := [.long (((a) : Int32).toInt64), .long 0, .long ((((nI (zs 3)) - 1) : Int32).toInt64)]) (rest := []) ⟨hx, hb, hml, hown, hts⟩ (gm_in l D k _ a 0 ((nI (zs 3)) - 1)) (va_cwS 3 hts gX8_lay_X8_in rfl rfl rfl hq_X8_in ⟨Nat.le_of_ble_eq_true rfl, Nat.le_of_ble_eq_true rfl⟩) (hs_preS hK hN (hs_subP (w := []) hP [] rfl) (hD.sub (ws' := []) [] rfl rfl)) rfl rfl hl.1 rfl (lv_room (Nat.le_of_ble_eq_true rfl)) dX8_lay_36 ⟨Nat.le_of_ble_eq_true rfl, Nat.le_of_ble_eq_true rfl⟩) hP hD hS hA (fun r_27 u_29 H locs hw_28 hP hS => ?_)
        refine hs_topi (hsb (hsin a 0 ((nI (zs 3)) - 1))) hw_28 ?_
        refine lv_if_ne (tgt := 45) hx hb dX8_lay_39 rfl (fun c_30 => ?_) (fun c_30 => ?_)
        · obtain ⟨aj, haj, rfl⟩ := hslt_ex ((hslt_in (by omega)).symm.trans (hs_nb c_30))
          refine lv_aload_n hx hb dX8_lay_45 rfl (lv_at hl 0 rfl) ?_
          refine va_get (D := D) (ci := 7) (v := .ref mo_cells) (C := RX8) (T := TX8) (N := 32) hx hb hts hiX8 hown hK hP 0 rfl rfl 29 (Nat.le_of_ble_eq_true rfl) fl38 (fun _ h9 => h9) rfl dX8_lay_46 ?_
          refine lv_bipush (v := 40) hx hb dX8_lay_49 hkb_40 ?_
          refine lv_iload_n hx hb dX8_lay_51 rfl (lv_at hl 1 rfl) ?_
          refine lv_imul hx hb dX8_lay_52 ?_
          refine hs_topi 120 (by first | rfl | decide +kernel) ?_
          refine lv_iload_n hx hb dX8_lay_53 rfl (lv_at hl 2 rfl) ?_
          refine lv_iadd hx hb dX8_lay_54 ?_
          refine hs_topi (nI (120 + aj)) (nI_add (120) (aj)) ?_
          refine lv_aload_n hx hb dX8_lay_55 rfl (lv_at hl 0 rfl) ?_
          refine va_get (D := D) (ci := 7) (v := .ref mo_lanes) (C := RX8) (T := TX8) (N := 32) hx hb hts hiX8 hown hK hP 0 rfl rfl 27 (Nat.le_of_ble_eq_true rfl) fl32 (fun _ h9 => h9) rfl dX8_lay_56 ?_
          refine lv_iload_n hx hb dX8_lay_59 rfl (lv_at hl 1 rfl) ?_
          refine va_iald hx hb hK hP 1 0 rfl rfl (hs_in (by decide)) dX8_lay_60 ?_
          refine lv_if_ne (tgt := 69) hx hb dX8_lay_61 rfl (fun c_31 => ?_) (fun c_31 => ?_)
          · refine lv_aload_n hx hb dX8_lay_69 rfl (lv_at hl 0 rfl) ?_
            refine va_get (D := D) (ci := 7) (v := .ref mo_lanes) (C := RX8) (T := TX8) (N := 32) hx hb hts hiX8 hown hK hP 0 rfl rfl 27 (Nat.le_of_ble_eq_true rfl) fl32 (fun _ h9 => h9) rfl dX8_lay_70 ?_
            refine lv_iload_n hx hb dX8_lay_73 rfl (lv_at hl 1 rfl) ?_
            refine va_iald hx hb hK hP 1 0 rfl rfl (hs_in (by decide)) dX8_lay_74 ?_
            refine lv_iconst (v := 1) hx hb dX8_lay_75 hki_1 ?_
            refine lv_icmp_ne (tgt := 84) hx hb dX8_lay_76 rfl (fun c_32 => ?_) (fun c_32 => ?_)
            · refine lv_iload_n hx hb dX8_lay_84 rfl (lv_at hl 3 rfl) ?_
              refine va_iast hx hb hK hP hD hS 3 0 rfl rfl (vp_in_nI (show (120 + aj) < 160 by omega) (by decide)) dX8_lay_85 (fun H locs hP hD hS => ?_)
              have hP : va_P D vwCl [_, _, _, oqI k mo_cells 160 (upd ce ((nI (120 + aj)).toNatClampNeg) v)] H := hP
              have hD : va_D A [_, _, _, oqI k mo_cells 160 (upd ce ((nI (120 + aj)).toNatClampNeg) v)] := hD
              refine lv_iconst (v := 1) hx hb dX8_lay_86 hki_1 ?_
              exact hs_iret hx hb hr hlocks hK hP hD hS (upd ce ((nI (120 + aj)).toNatClampNeg) v) [0, 1, 2, 3] rfl (hs_upnd rfl) dX8_lay_87 (⟨(show (1 : Int32) = A_laym (laf 3) (zs 3) _ by rw [A_laym, if_neg (show ¬ laf 3 = -4 from c_26), ← hslt_in (by omega), if_pos (hs_nb c_30)]), Or.inr ⟨rfl, 3, aj, by decide, haj, rfl, rfl, (by (try dsimp only); rw [nI_clamp (by omega), lnV, if_neg (show ¬ laf 3 = 0 from c_31), if_neg (show ¬ laf 3 = 1 from c_32)])⟩⟩)
            · refine lv_iload_n hx hb dX8_lay_79 rfl (lv_at hl 3 rfl) ?_
              refine lv_i2s hx hb dX8_lay_80 rfl ?_
              refine lv_goto (tgt := 85) hx hb dX8_lay_81 rfl ?_
              refine va_iast hx hb hK hP hD hS 3 0 rfl rfl (vp_in_nI (show (120 + aj) < 160 by omega) (by decide)) dX8_lay_85 (fun H locs hP hD hS => ?_)
              have hP : va_P D vwCl [_, _, _, oqI k mo_cells 160 (upd ce ((nI (120 + aj)).toNatClampNeg) (((v) : Int32).toInt16.toInt32))] H := hP
              have hD : va_D A [_, _, _, oqI k mo_cells 160 (upd ce ((nI (120 + aj)).toNatClampNeg) (((v) : Int32).toInt16.toInt32))] := hD
              refine lv_iconst (v := 1) hx hb dX8_lay_86 hki_1 ?_
              exact hs_iret hx hb hr hlocks hK hP hD hS (upd ce ((nI (120 + aj)).toNatClampNeg) (((v) : Int32).toInt16.toInt32)) [0, 1, 2, 3] rfl (hs_upnd rfl) dX8_lay_87 (⟨(show (1 : Int32) = A_laym (laf 3) (zs 3) _ by rw [A_laym, if_neg (show ¬ laf 3 = -4 from c_26), ← hslt_in (by omega), if_pos (hs_nb c_30)]), Or.inr ⟨rfl, 3, aj, by decide, haj, rfl, rfl, (by (try dsimp only); rw [nI_clamp (by omega), lnV, if_neg (show ¬ laf 3 = 0 from c_31), if_pos (show laf 3 = 1 from c_32)])⟩⟩)
          · refine lv_iload_n hx hb dX8_lay_64 rfl (lv_at hl 3 rfl) ?_
            refine lv_i2b hx hb dX8_lay_65 rfl ?_
            refine lv_goto (tgt := 85) hx hb dX8_lay_66 rfl ?_
            refine va_iast hx hb hK hP hD hS 3 0 rfl rfl (vp_in_nI (show (120 + aj) < 160 by omega) (by decide)) dX8_lay_85 (fun H locs hP hD hS => ?_)
            have hP : va_P D vwCl [_, _, _, oqI k mo_cells 160 (upd ce ((nI (120 + aj)).toNatClampNeg) (((v) : Int32).toInt8.toInt32))] H := hP
            have hD : va_D A [_, _, _, oqI k mo_cells 160 (upd ce ((nI (120 + aj)).toNatClampNeg) (((v) : Int32).toInt8.toInt32))] := hD
            refine lv_iconst (v := 1) hx hb dX8_lay_86 hki_1 ?_
            exact hs_iret hx hb hr hlocks hK hP hD hS (upd ce ((nI (120 + aj)).toNatClampNeg) (((v) : Int32).toInt8.toInt32)) [0, 1, 2, 3] rfl (hs_upnd rfl) dX8_lay_87 (⟨(show (1 : Int32) = A_laym (laf 3) (zs 3) _ by rw [A_laym, if_neg (show ¬ laf 3 = -4 from c_26), ← hslt_in (by omega), if_pos (hs_nb c_30)]), Or.inr ⟨rfl, 3, aj, by decide, haj, rfl, rfl, (by (try dsimp only); rw [nI_clamp (by omega), lnV, if_pos (show laf 3 = 0 from c_31)])⟩⟩)
        · refine lv_bipush (v := (-12)) hx hb dX8_lay_42 hkb_m12 ?_
          exact hs_iret hx hb hr hlocks hK hP hD hS ce [0, 1, 2, 3] rfl (hs_upnd rfl) dX8_lay_44 (⟨(show (-12 : Int32) = A_laym (laf 3) (zs 3) _ by rw [A_laym, if_neg (show ¬ laf 3 = -4 from c_26), ← hslt_in (by omega), hs_n0 c_30]; rfl), Or.inl ⟨by decide, rfl⟩⟩)
      · refine lv_bipush (v := (-11)) hx hb dX8_lay_21 hkb_m11 ?_
        exact hs_iret hx hb hr hlocks hK hP hD hS ce [0, 1, 2, 3] rfl (hs_upnd rfl) dX8_lay_23 (⟨(show (-11 : Int32) = A_laym (laf 3) (zs 3) _ by rw [A_laym, if_pos (show laf 3 = -4 from c_26)]), Or.inl ⟨by decide, rfl⟩⟩)
  · refine lv_iconst (v := (-1)) hx hb dX8_lay_8 hki_m1 ?_
    exact hs_iret hx hb hr hlocks hK hP hD hS ce [0, 1, 2, 3] rfl (hs_upnd rfl) dX8_lay_9 (⟨by rw [hs_lay0 c_4]; rfl, Or.inl ⟨by decide, rfl⟩⟩)
