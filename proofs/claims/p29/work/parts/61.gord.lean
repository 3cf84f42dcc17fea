theorem hs_powP {n : Nat} (h1 : 2 ≤ n) (h2 : n ≤ 5) : ∃ P : Nat, P ≤ 3125 ∧ hspw (nI n) n = nI P := by
  rcases (show n = 2 ∨ n = 3 ∨ n = 4 ∨ n = 5 by omega) with rfl | rfl | rfl | rfl
  · exact ⟨4, by decide, by decide⟩
  · exact ⟨27, by decide, by decide⟩
  · exact ⟨256, by decide, by decide⟩
  · exact ⟨3125, by decide, by decide⟩
theorem hs_prege {x : Nat} (hx : x < 2 ^ 30) (c : ¬ nI x - 1 < 0) : 1 ≤ x := by
  rcases Nat.eq_zero_or_pos x with h | h
  · subst h
    exact absurd (by decide) c
  · exact h
theorem hs_pre_eq {x : Nat} (h : 1 ≤ x) : nI x - 1 = nI (x - 1) := pk_sub (b := 1) h
theorem hs_pre_dec {x : Nat} (h : 1 ≤ x) : nI x - 1 + Int32.ofInt (-1) = nI (x - 1) - 1 := by
  rw [hs_pre_eq h]
  rw [Int32.sub_eq_add_neg]
  rfl

theorem hsb01 {v : Int32} (h : v = 0 ∨ v = 1) : narrow .boolean (.int v) = .int v := by
  rcases h with rfl | rfl <;> rfl

set_option maxHeartbeats 4000000 in
set_option maxRecDepth 100000 in
theorem gm_isSo (l : Launch) (D : va_G) (k : Nat → ClassId) (sz : Nat) (mo : Nat) (mo_st : Nat) (mo_at : Nat) (mo_isKept : Nat) (mo_pe : Nat) (mo_hm : Nat) (mo_draft : Nat) (mo_dp : Nat) (mo_dh : Nat) (mo_toldLines : Int32) (mo_highest : Int32) (mo_tape : Nat) (mo_tl : Nat) (mo_ps : Nat) (mo_fr : Nat) (mo_sort : Int32) (mo_value : Int32) (mo_ft : Nat) (mo_wrongAt : Int32) (mo_row : Nat) (mo_orderMany : Int32) (mo_fo : Nat) (mo_lightest : Int32) (mo_heaviest : Int32) (mo_before : Nat) (mo_justSum : Int64) (mo_toldSum : Int64) (mo_allWays : Int64) (mo_lanes : Nat) (mo_sizes : Nat) (mo_cells : Nat) (mo_torn : Int32) (mo_had : Nat) (af : Nat → Int32) (c0 : Nat) (c4 : Nat) (e0 : af 0 = nI c0) (h0 : c0 ≤ 8) (e4 : af 25 = nI c4) (h4 : c4 ≤ 6) (hsaw : ∀ i, i < c4 → vp_in (af (26 + 3 * i)) 4) : MI l yX8_isSo wsX8_isSo ({ frames := 4, cells := 0, slots := 0, locals := 93 }) D k [.ref mo] [oq7 mo mo_st mo_at mo_isKept (nI mo_pe) (nI mo_hm) mo_draft (nI mo_dp) (nI mo_dh) mo_toldLines mo_highest mo_tape (nI mo_tl) (nI mo_ps) (nI mo_fr) mo_sort mo_value (nI mo_ft) mo_wrongAt mo_row mo_orderMany (nI mo_fo) mo_lightest mo_heaviest mo_before mo_justSum mo_toldSum mo_allWays mo_lanes mo_sizes mo_cells mo_torn mo_had, oqI k mo_at 44 (af)] sz (fun (r : Int32) (u : Unit) => True) (fun (u : Unit) => [oq7 mo mo_st mo_at mo_isKept (nI mo_pe) (nI mo_hm) mo_draft (nI mo_dp) (nI mo_dh) mo_toldLines mo_highest mo_tape (nI mo_tl) (nI mo_ps) (nI mo_fr) mo_sort mo_value (nI mo_ft) mo_wrongAt mo_row mo_orderMany (nI mo_fo) mo_lightest mo_heaviest mo_before mo_justSum mo_toldSum mo_allWays mo_lanes mo_sizes mo_cells mo_torn mo_had, oqI k mo_at 44 (af)]) := by
  refine Met.ofW (cc := cX8_isSo) (maxL := 4) (ret := (some .boolean)) hpn_X8 rfl ?_
  intro p e s m args below meth c s₁ B hml hv
  obtain ⟨rfl, hsz, hP, hK, hD0, hN⟩ := hv
  have hx := B.exec
  have hb := B.bytes
  have hr := B.returns
  have hlocks := B.notSynchronized
  have hts := atoms_spec (ws := wsX8_isSo) B.pre
  have hown := findClass_of_methodNamed B.named
  have hown : s.vm.findClass RX8 = some m.cls := hown
  have hiX8 : ∀ w ∈ u_ws RX8 TX8 32, w ∈ wsX8_isSo := fun w9 hw9 => List.mem_cons_of_mem _ (igX8 w9 hw9)
  have fl13 := hts (.fieldLink RX8 13 "HalfScalesModel" "at" "[I") (List.mem_cons_of_mem _ (hs_inG 4 81 rfl rfl))
  subst hsz
  have hD := hD0.self (sz := s.heap.size)
  generalize hAe : va_A [oq7 mo mo_st mo_at mo_isKept (nI mo_pe) (nI mo_hm) mo_draft (nI mo_dp) (nI mo_dh) mo_toldLines mo_highest mo_tape (nI mo_tl) (nI mo_ps) (nI mo_fr) mo_sort mo_value (nI mo_ft) mo_wrongAt mo_row mo_orderMany (nI mo_fo) mo_lightest mo_heaviest mo_before mo_justSum mo_toldSum mo_allWays mo_lanes mo_sizes mo_cells mo_torn mo_had, oqI k mo_at 44 (af)] s.heap.size = A at hD ⊢
  have hA : ∀ q : Nat, s.heap.size ≤ q → A q := fun q h => by rw [← hAe]; exact Or.inr h
  have hS : va_S A s.heap s.heap [] := va_S.rf
  have hl := lv_entry ([.ref mo]) (n := 4) (Nat.le_of_ble_eq_true rfl)
  rw [lg_entry_eq]
  generalize (lg_sl ([.ref mo]) ++ List.replicate (4 - (lg_sl ([.ref mo])).length) Slot.unset).toArray = ls at hl ⊢
  have hl : lv_has ls 4 [(0, .ref mo)] := hl
  have hP : va_P D vwCl [oq7 mo mo_st mo_at mo_isKept (nI mo_pe) (nI mo_hm) mo_draft (nI mo_dp) (nI mo_dh) mo_toldLines mo_highest mo_tape (nI mo_tl) (nI mo_ps) (nI mo_fr) mo_sort mo_value (nI mo_ft) mo_wrongAt mo_row mo_orderMany (nI mo_fo) mo_lightest mo_heaviest mo_before mo_justSum mo_toldSum mo_allWays mo_lanes mo_sizes mo_cells mo_torn mo_had, oqI k mo_at 44 (af)] s.heap := hP
  refine lv_iconst (v := 1) hx hb dX8_isSo_0 hki_1 ?_
  refine lv_istore_n (lv' := [(1, .int 1), (0, .ref mo)]) hx hb dX8_isSo_1 rfl hl (Nat.le_of_ble_eq_true rfl) rfl (fun ls hl => ?_)
  refine lv_iconst (v := 0) hx hb dX8_isSo_2 hki_0 ?_
  refine lv_istore_n (lv' := [(2, .int 0), (1, .int 1), (0, .ref mo)]) hx hb dX8_isSo_3 rfl hl (Nat.le_of_ble_eq_true rfl) rfl (fun ls hl => ?_)
  refine hs_while (σ := Int32 × Nat) (fun x => x.2 ≤ c4 ∧ (x.1 = 0 ∨ x.1 = 1)) (fun x => c4 - x.2) (fun x => [oq7 mo mo_st mo_at mo_isKept (nI mo_pe) (nI mo_hm) mo_draft (nI mo_dp) (nI mo_dh) mo_toldLines mo_highest mo_tape (nI mo_tl) (nI mo_ps) (nI mo_fr) mo_sort mo_value (nI mo_ft) mo_wrongAt mo_row mo_orderMany (nI mo_fo) mo_lightest mo_heaviest mo_before mo_justSum mo_toldSum mo_allWays mo_lanes mo_sizes mo_cells mo_torn mo_had, oqI k mo_at 44 (af)]) (fun x => [(2, .int (nI (x.2))), (1, .int (x.1)), (0, .ref mo)]) ?_ (1, 0) ?_ hP hD hS hl
  · intro x hI ih4 H locs ls hP hD hS hl
    obtain ⟨iz, i⟩ := x
    try dsimp only at hI
    have hP : va_P D vwCl [oq7 mo mo_st mo_at mo_isKept (nI mo_pe) (nI mo_hm) mo_draft (nI mo_dp) (nI mo_dh) mo_toldLines mo_highest mo_tape (nI mo_tl) (nI mo_ps) (nI mo_fr) mo_sort mo_value (nI mo_ft) mo_wrongAt mo_row mo_orderMany (nI mo_fo) mo_lightest mo_heaviest mo_before mo_justSum mo_toldSum mo_allWays mo_lanes mo_sizes mo_cells mo_torn mo_had, oqI k mo_at 44 (af)] H := hP
    have hD : va_D A [oq7 mo mo_st mo_at mo_isKept (nI mo_pe) (nI mo_hm) mo_draft (nI mo_dp) (nI mo_dh) mo_toldLines mo_highest mo_tape (nI mo_tl) (nI mo_ps) (nI mo_fr) mo_sort mo_value (nI mo_ft) mo_wrongAt mo_row mo_orderMany (nI mo_fo) mo_lightest mo_heaviest mo_before mo_justSum mo_toldSum mo_allWays mo_lanes mo_sizes mo_cells mo_torn mo_had, oqI k mo_at 44 (af)] := hD
    have hl : lv_has ls 4 [(2, .int (nI i)), (1, .int iz), (0, .ref mo)] := hl
    refine lv_iload_n hx hb dX8_isSo_4 rfl (lv_at hl 0 rfl) ?_
    refine lv_aload_n hx hb dX8_isSo_5 rfl (lv_at hl 2 rfl) ?_
    refine va_get (D := D) (ci := 7) (v := .ref mo_at) (C := RX8) (T := TX8) (N := 32) hx hb hts hiX8 hown hK hP 0 rfl rfl 1 (Nat.le_of_ble_eq_true rfl) fl13 (fun _ h9 => h9) rfl dX8_isSo_6 ?_
    refine lv_bipush (v := 25) hx hb dX8_isSo_9 hkb_25 ?_
    refine va_iald hx hb hK hP 1 0 rfl rfl (hs_in (by decide)) dX8_isSo_11 ?_
    refine hs_topi (nI c4) e4 ?_
    refine lv_icmp_ge (tgt := 84) hx hb dX8_isSo_12 rfl (fun c_1 => ?_) (fun c_1 => ?_)
    · have nc_1 : c4 ≤ i := (nI_leI (a := c4) (b := i) (by omega) (by omega)).mp c_1
      refine lv_iload_n hx hb dX8_isSo_84 rfl (lv_at hl 1 rfl) ?_
      exact hs_zret hx hb hr hlocks hK hP hD hS () [0, 1] rfl (hs_upnd rfl) dX8_isSo_85 (hsb01 hI.2) (trivial)
    · have nc_1 : ¬ c4 ≤ i := fun hq9 => c_1 ((nI_leI (a := c4) (b := i) (by omega) (by omega)).mpr hq9)
      refine lv_bipush (v := 26) hx hb dX8_isSo_15 hkb_26 ?_
      refine lv_iconst (v := 3) hx hb dX8_isSo_17 hki_3 ?_
      refine lv_iload_n hx hb dX8_isSo_18 rfl (lv_at hl 0 rfl) ?_
      refine lv_imul hx hb dX8_isSo_19 ?_
      refine hs_topi (nI (3 * i)) (pk_mul (3) (i)) ?_
      refine lv_iadd hx hb dX8_isSo_20 ?_
      refine hs_topi (nI (26 + (3 * i))) (nI_add (26) ((3 * i))) ?_
      refine lv_istore_n (lv' := [(3, .int (nI (26 + (3 * i)))), (2, .int (nI i)), (1, .int iz), (0, .ref mo)]) hx hb dX8_isSo_21 rfl hl (Nat.le_of_ble_eq_true rfl) rfl (fun ls hl => ?_)
      refine lv_iload_n hx hb dX8_isSo_22 rfl (lv_at hl 2 rfl) ?_
      refine lv_if_eq (tgt := 76) hx hb dX8_isSo_23 rfl (fun c_2 => ?_) (fun c_2 => ?_)
      · refine lv_iconst (v := 0) hx hb dX8_isSo_76 hki_0 ?_
        refine lv_istore_n (lv' := [(1, .int 0), (3, .int (nI (26 + (3 * i)))), (2, .int (nI i)), (0, .ref mo)]) hx hb dX8_isSo_77 rfl hl (Nat.le_of_ble_eq_true rfl) rfl (fun ls hl => ?_)
        refine lv_iinc (v := nI (i + 1)) (lv' := [(2, .int (nI (i + 1))), (1, .int 0), (3, .int (nI (26 + (3 * i)))), (0, .ref mo)]) hx hb dX8_isSo_78 hl (k := 2) rfl (nI_add (i) 1) (Nat.le_of_ble_eq_true rfl) rfl (fun ls hl => ?_)
        refine lv_goto (tgt := 4) hx hb dX8_isSo_81 rfl ?_
        exact ih4 (0, i + 1) (by (try dsimp only); exact ⟨by omega, by first | exact Or.inl rfl | exact Or.inr rfl⟩) (by (try dsimp only); omega) _ _ _ hP hD hS (lv_sub hl [0, 1, 3] rfl)
      · refine lv_aload_n hx hb dX8_isSo_26 rfl (lv_at hl 3 rfl) ?_
        refine va_get (D := D) (ci := 7) (v := .ref mo_at) (C := RX8) (T := TX8) (N := 32) hx hb hts hiX8 hown hK hP 0 rfl rfl 1 (Nat.le_of_ble_eq_true rfl) fl13 (fun _ h9 => h9) rfl dX8_isSo_27 ?_
        refine lv_iload_n hx hb dX8_isSo_30 rfl (lv_at hl 0 rfl) ?_
        refine lv_iconst (v := 1) hx hb dX8_isSo_31 hki_1 ?_
        refine lv_iadd hx hb dX8_isSo_32 ?_
        refine hs_topi (nI ((26 + (3 * i)) + 1)) (nI_add ((26 + (3 * i))) (1)) ?_
        refine va_iald hx hb hK hP 1 0 rfl rfl (vp_in_nI (show ((26 + (3 * i)) + 1) < 44 by omega) (by decide)) dX8_isSo_33 ?_
        refine lv_aload_n hx hb dX8_isSo_34 rfl (lv_at hl 3 rfl) ?_
        refine va_get (D := D) (ci := 7) (v := .ref mo_at) (C := RX8) (T := TX8) (N := 32) hx hb hts hiX8 hown hK hP 0 rfl rfl 1 (Nat.le_of_ble_eq_true rfl) fl13 (fun _ h9 => h9) rfl dX8_isSo_35 ?_
        refine lv_iconst (v := 0) hx hb dX8_isSo_38 hki_0 ?_
        refine va_iald hx hb hK hP 1 0 rfl rfl (hs_in (by decide)) dX8_isSo_39 ?_
        refine hs_topi (nI c0) e0 ?_
        refine lv_icmp_ge (tgt := 76) hx hb dX8_isSo_40 rfl (fun c_3 => ?_) (fun c_3 => ?_)
        · refine lv_iconst (v := 0) hx hb dX8_isSo_76 hki_0 ?_
          refine lv_istore_n (lv' := [(1, .int 0), (3, .int (nI (26 + (3 * i)))), (2, .int (nI i)), (0, .ref mo)]) hx hb dX8_isSo_77 rfl hl (Nat.le_of_ble_eq_true rfl) rfl (fun ls hl => ?_)
          refine lv_iinc (v := nI (i + 1)) (lv' := [(2, .int (nI (i + 1))), (1, .int 0), (3, .int (nI (26 + (3 * i)))), (0, .ref mo)]) hx hb dX8_isSo_78 hl (k := 2) rfl (nI_add (i) 1) (Nat.le_of_ble_eq_true rfl) rfl (fun ls hl => ?_)
          refine lv_goto (tgt := 4) hx hb dX8_isSo_81 rfl ?_
          exact ih4 (0, i + 1) (by (try dsimp only); exact ⟨by omega, by first | exact Or.inl rfl | exact Or.inr rfl⟩) (by (try dsimp only); omega) _ _ _ hP hD hS (lv_sub hl [0, 1, 3] rfl)
        · refine lv_aload_n hx hb dX8_isSo_43 rfl (lv_at hl 3 rfl) ?_
          refine lv_aload_n hx hb dX8_isSo_44 rfl (lv_at hl 3 rfl) ?_
          refine va_get (D := D) (ci := 7) (v := .ref mo_at) (C := RX8) (T := TX8) (N := 32) hx hb hts hiX8 hown hK hP 0 rfl rfl 1 (Nat.le_of_ble_eq_true rfl) fl13 (fun _ h9 => h9) rfl dX8_isSo_45 ?_
          refine lv_iload_n hx hb dX8_isSo_48 rfl (lv_at hl 0 rfl) ?_
          refine va_iald hx hb hK hP 1 0 rfl rfl (vp_in_nI (show (26 + (3 * i)) < 44 by omega) (by decide)) dX8_isSo_49 ?_
          obtain ⟨jj, hjj, ejj⟩ := vp_in_of (hsaw i (by omega)) (by decide)
          refine hs_topi (nI jj) (by rw [nI_clamp (by omega)]; exact ejj) ?_
          refine lv_aload_n hx hb dX8_isSo_50 rfl (lv_at hl 3 rfl) ?_
          refine va_get (D := D) (ci := 7) (v := .ref mo_at) (C := RX8) (T := TX8) (N := 32) hx hb hts hiX8 hown hK hP 0 rfl rfl 1 (Nat.le_of_ble_eq_true rfl) fl13 (fun _ h9 => h9) rfl dX8_isSo_51 ?_
          refine lv_iload_n hx hb dX8_isSo_54 rfl (lv_at hl 0 rfl) ?_
          refine lv_iconst (v := 1) hx hb dX8_isSo_55 hki_1 ?_
          refine lv_iadd hx hb dX8_isSo_56 ?_
          refine hs_topi (nI ((26 + (3 * i)) + 1)) (nI_add ((26 + (3 * i))) (1)) ?_
          refine va_iald hx hb hK hP 1 0 rfl rfl (vp_in_nI (show ((26 + (3 * i)) + 1) < 44 by omega) (by decide)) dX8_isSo_57 ?_
          refine hs_ciM (va_runV (As := [.int (nI jj), .int (af (nI ((26 + (3 * i)) + 1)).toNatClampNeg)]) (rest := []) ⟨hx, hb, hml, hown, hts⟩ (gm_findOf l D k _ mo mo_st mo_at mo_isKept mo_pe mo_hm mo_draft mo_dp mo_dh mo_toldLines mo_highest mo_tape mo_tl mo_ps mo_fr mo_sort mo_value mo_ft mo_wrongAt mo_row mo_orderMany mo_fo mo_lightest mo_heaviest mo_before mo_justSum mo_toldSum mo_allWays mo_lanes mo_sizes mo_cells mo_torn mo_had af c0 jj (af (nI ((26 + (3 * i)) + 1)).toNatClampNeg) (by first | exact e0a | exact e0) (by omega) (by omega)) (cwV 2 hts gX8_isSo_X8_findOf rfl rfl rfl ⟨rfl, hq_X8_findOf⟩ ⟨Nat.le_of_ble_eq_true rfl, Nat.le_of_ble_eq_true rfl⟩) (hs_preV hK hN (hs_subP (w := [_, _]) hP [0, 1] rfl) (hD.sub (ws' := [_, _]) [0, 1] (hs_upnd rfl) rfl) (ci := 7) (q0 := 0) rfl rfl) rfl rfl hl.1 rfl (lv_room (Nat.le_of_ble_eq_true rfl)) dX8_isSo_58 ⟨Nat.le_of_ble_eq_true rfl, Nat.le_of_ble_eq_true rfl⟩) hP hD hS hA [false, false] [] [_, _] rfl [0, 1] rfl [0, 1] (fun u_6 => [_, _]) (fun _ => rfl) (hs_upnd rfl) [false, false] (fun u_6 => [_, _]) (fun _ => rfl) (fun r_4 u_6 H locs hw_5 hP hD hS => ?_)
          refine lv_aload_n hx hb dX8_isSo_61 rfl (lv_at hl 3 rfl) ?_
          refine va_get (D := D) (ci := 7) (v := .ref mo_at) (C := RX8) (T := TX8) (N := 32) hx hb hts hiX8 hown hK hP 0 rfl rfl 1 (Nat.le_of_ble_eq_true rfl) fl13 (fun _ h9 => h9) rfl dX8_isSo_62 ?_
          refine lv_iload_n hx hb dX8_isSo_65 rfl (lv_at hl 0 rfl) ?_
          refine lv_iconst (v := 2) hx hb dX8_isSo_66 hki_2 ?_
          refine lv_iadd hx hb dX8_isSo_67 ?_
          refine hs_topi (nI ((26 + (3 * i)) + 2)) (nI_add ((26 + (3 * i))) (2)) ?_
          refine va_iald hx hb hK hP 1 0 rfl rfl (vp_in_nI (show ((26 + (3 * i)) + 2) < 44 by omega) (by decide)) dX8_isSo_68 ?_
          refine lv_icmp_ne (tgt := 76) hx hb dX8_isSo_69 rfl (fun c_7 => ?_) (fun c_7 => ?_)
          · refine lv_iconst (v := 0) hx hb dX8_isSo_76 hki_0 ?_
            refine lv_istore_n (lv' := [(1, .int 0), (3, .int (nI (26 + (3 * i)))), (2, .int (nI i)), (0, .ref mo)]) hx hb dX8_isSo_77 rfl hl (Nat.le_of_ble_eq_true rfl) rfl (fun ls hl => ?_)
            refine lv_iinc (v := nI (i + 1)) (lv' := [(2, .int (nI (i + 1))), (1, .int 0), (3, .int (nI (26 + (3 * i)))), (0, .ref mo)]) hx hb dX8_isSo_78 hl (k := 2) rfl (nI_add (i) 1) (Nat.le_of_ble_eq_true rfl) rfl (fun ls hl => ?_)
            refine lv_goto (tgt := 4) hx hb dX8_isSo_81 rfl ?_
            exact ih4 (0, i + 1) (by (try dsimp only); exact ⟨by omega, by first | exact Or.inl rfl | exact Or.inr rfl⟩) (by (try dsimp only); omega) _ _ _ hP hD hS (lv_sub hl [0, 1, 3] rfl)
          · refine lv_iconst (v := 1) hx hb dX8_isSo_72 hki_1 ?_
            refine lv_goto (tgt := 77) hx hb dX8_isSo_73 rfl ?_
            refine lv_istore_n (lv' := [(1, .int 1), (3, .int (nI (26 + (3 * i)))), (2, .int (nI i)), (0, .ref mo)]) hx hb dX8_isSo_77 rfl hl (Nat.le_of_ble_eq_true rfl) rfl (fun ls hl => ?_)
            refine lv_iinc (v := nI (i + 1)) (lv' := [(2, .int (nI (i + 1))), (1, .int 1), (3, .int (nI (26 + (3 * i)))), (0, .ref mo)]) hx hb dX8_isSo_78 hl (k := 2) rfl (nI_add (i) 1) (Nat.le_of_ble_eq_true rfl) rfl (fun ls hl => ?_)
            refine lv_goto (tgt := 4) hx hb dX8_isSo_81 rfl ?_
            exact ih4 (1, i + 1) (by (try dsimp only); exact ⟨by omega, by first | exact Or.inl rfl | exact Or.inr rfl⟩) (by (try dsimp only); omega) _ _ _ hP hD hS (lv_sub hl [0, 1, 3] rfl)
  · (try dsimp only); exact ⟨by omega, Or.inr rfl⟩

set_option maxHeartbeats 4000000 in
set_option maxRecDepth 100000 in
theorem gm_placeOf (l : Launch) (D : va_G) (k : Nat → ClassId) (sz : Nat) (mo : Nat) (mo_st : Nat) (mo_at : Nat) (mo_isKept : Nat) (mo_pe : Nat) (mo_hm : Nat) (mo_draft : Nat) (mo_dp : Nat) (mo_dh : Nat) (mo_toldLines : Int32) (mo_highest : Int32) (mo_tape : Nat) (mo_tl : Nat) (mo_ps : Nat) (mo_fr : Nat) (mo_sort : Int32) (mo_value : Int32) (mo_ft : Nat) (mo_wrongAt : Int32) (mo_row : Nat) (mo_orderMany : Int32) (mo_fo : Nat) (mo_lightest : Int32) (mo_heaviest : Int32) (mo_before : Nat) (mo_justSum : Int64) (mo_toldSum : Int64) (mo_allWays : Int64) (mo_lanes : Nat) (mo_sizes : Nat) (mo_cells : Nat) (mo_torn : Int32) (mo_had : Nat) (rf : Nat → Int32) (v : Int32) (n : Nat) (hn : n ≤ 5) : MI l yX8_placeOf wsX8_placeOf ({ frames := 0, cells := 0, slots := 0, locals := 0 }) D k [.ref mo, .int v, .int (nI n)] [oq7 mo mo_st mo_at mo_isKept (nI mo_pe) (nI mo_hm) mo_draft (nI mo_dp) (nI mo_dh) mo_toldLines mo_highest mo_tape (nI mo_tl) (nI mo_ps) (nI mo_fr) mo_sort mo_value (nI mo_ft) mo_wrongAt mo_row mo_orderMany (nI mo_fo) mo_lightest mo_heaviest mo_before mo_justSum mo_toldSum mo_allWays mo_lanes mo_sizes mo_cells mo_torn mo_had, oqI k mo_row 5 (rf)] sz (fun (r : Int32) (u : Unit) => True) (fun (u : Unit) => [oq7 mo mo_st mo_at mo_isKept (nI mo_pe) (nI mo_hm) mo_draft (nI mo_dp) (nI mo_dh) mo_toldLines mo_highest mo_tape (nI mo_tl) (nI mo_ps) (nI mo_fr) mo_sort mo_value (nI mo_ft) mo_wrongAt mo_row mo_orderMany (nI mo_fo) mo_lightest mo_heaviest mo_before mo_justSum mo_toldSum mo_allWays mo_lanes mo_sizes mo_cells mo_torn mo_had, oqI k mo_row 5 (rf)]) := by
  refine Met.ofW (cc := cX8_placeOf) (maxL := 5) (ret := (some .int)) hpn_X8 rfl ?_
  intro p e s m args below meth c s₁ B hml hv
  obtain ⟨rfl, hsz, hP, hK, hD0, hN⟩ := hv
  have hx := B.exec
  have hb := B.bytes
  have hr := B.returns
  have hlocks := B.notSynchronized
  have hts := atoms_spec (ws := wsX8_placeOf) B.pre
  have hown := findClass_of_methodNamed B.named
  have hown : s.vm.findClass RX8 = some m.cls := hown
  have hiX8 : ∀ w ∈ u_ws RX8 TX8 32, w ∈ wsX8_placeOf := fun w9 hw9 => List.mem_cons_of_mem _ (igX8 w9 hw9)
  have fl26 := hts (.fieldLink RX8 26 "HalfScalesModel" "row" "[I") (List.mem_cons_of_mem _ (hs_inG 4 98 rfl rfl))
  subst hsz
  have hD := hD0.self (sz := s.heap.size)
  generalize hAe : va_A [oq7 mo mo_st mo_at mo_isKept (nI mo_pe) (nI mo_hm) mo_draft (nI mo_dp) (nI mo_dh) mo_toldLines mo_highest mo_tape (nI mo_tl) (nI mo_ps) (nI mo_fr) mo_sort mo_value (nI mo_ft) mo_wrongAt mo_row mo_orderMany (nI mo_fo) mo_lightest mo_heaviest mo_before mo_justSum mo_toldSum mo_allWays mo_lanes mo_sizes mo_cells mo_torn mo_had, oqI k mo_row 5 (rf)] s.heap.size = A at hD ⊢
  have hA : ∀ q : Nat, s.heap.size ≤ q → A q := fun q h => by rw [← hAe]; exact Or.inr h
  have hS : va_S A s.heap s.heap [] := va_S.rf
  have hl := lv_entry ([.ref mo, .int v, .int (nI n)]) (n := 5) (Nat.le_of_ble_eq_true rfl)
  rw [lg_entry_eq]
  generalize (lg_sl ([.ref mo, .int v, .int (nI n)]) ++ List.replicate (5 - (lg_sl ([.ref mo, .int v, .int (nI n)])).length) Slot.unset).toArray = ls at hl ⊢
  have hl : lv_has ls 5 [(0, .ref mo), (1, .int v), (2, .int (nI n))] := hl
  have hP : va_P D vwCl [oq7 mo mo_st mo_at mo_isKept (nI mo_pe) (nI mo_hm) mo_draft (nI mo_dp) (nI mo_dh) mo_toldLines mo_highest mo_tape (nI mo_tl) (nI mo_ps) (nI mo_fr) mo_sort mo_value (nI mo_ft) mo_wrongAt mo_row mo_orderMany (nI mo_fo) mo_lightest mo_heaviest mo_before mo_justSum mo_toldSum mo_allWays mo_lanes mo_sizes mo_cells mo_torn mo_had, oqI k mo_row 5 (rf)] s.heap := hP
  refine lv_iconst (v := 0) hx hb dX8_placeOf_0 hki_0 ?_
  refine lv_istore_n (lv' := [(3, .int 0), (0, .ref mo), (1, .int v), (2, .int (nI n))]) hx hb dX8_placeOf_1 rfl hl (Nat.le_of_ble_eq_true rfl) rfl (fun ls hl => ?_)
  refine lv_iconst (v := 0) hx hb dX8_placeOf_2 hki_0 ?_
  refine lv_istore (lv' := [(4, .int 0), (3, .int 0), (0, .ref mo), (1, .int v), (2, .int (nI n))]) hx hb dX8_placeOf_3 hl (Nat.le_of_ble_eq_true rfl) rfl (fun ls hl => ?_)
  refine hs_while (σ := Int32 × Nat) (fun x => x.2 ≤ n) (fun x => n - x.2) (fun x => [oq7 mo mo_st mo_at mo_isKept (nI mo_pe) (nI mo_hm) mo_draft (nI mo_dp) (nI mo_dh) mo_toldLines mo_highest mo_tape (nI mo_tl) (nI mo_ps) (nI mo_fr) mo_sort mo_value (nI mo_ft) mo_wrongAt mo_row mo_orderMany (nI mo_fo) mo_lightest mo_heaviest mo_before mo_justSum mo_toldSum mo_allWays mo_lanes mo_sizes mo_cells mo_torn mo_had, oqI k mo_row 5 (rf)]) (fun x => [(4, .int (nI (x.2))), (3, .int (x.1)), (0, .ref mo), (1, .int v), (2, .int (nI n))]) ?_ (0, 0) ?_ hP hD hS hl
  · intro x hI ih5 H locs ls hP hD hS hl
    obtain ⟨fo, i⟩ := x
    try dsimp only at hI
    have hP : va_P D vwCl [oq7 mo mo_st mo_at mo_isKept (nI mo_pe) (nI mo_hm) mo_draft (nI mo_dp) (nI mo_dh) mo_toldLines mo_highest mo_tape (nI mo_tl) (nI mo_ps) (nI mo_fr) mo_sort mo_value (nI mo_ft) mo_wrongAt mo_row mo_orderMany (nI mo_fo) mo_lightest mo_heaviest mo_before mo_justSum mo_toldSum mo_allWays mo_lanes mo_sizes mo_cells mo_torn mo_had, oqI k mo_row 5 (rf)] H := hP
    have hD : va_D A [oq7 mo mo_st mo_at mo_isKept (nI mo_pe) (nI mo_hm) mo_draft (nI mo_dp) (nI mo_dh) mo_toldLines mo_highest mo_tape (nI mo_tl) (nI mo_ps) (nI mo_fr) mo_sort mo_value (nI mo_ft) mo_wrongAt mo_row mo_orderMany (nI mo_fo) mo_lightest mo_heaviest mo_before mo_justSum mo_toldSum mo_allWays mo_lanes mo_sizes mo_cells mo_torn mo_had, oqI k mo_row 5 (rf)] := hD
    have hl : lv_has ls 5 [(4, .int (nI i)), (3, .int fo), (0, .ref mo), (1, .int v), (2, .int (nI n))] := hl
    refine lv_iload hx hb dX8_placeOf_5 (lv_at hl 0 rfl) ?_
    refine lv_iload_n hx hb dX8_placeOf_7 rfl (lv_at hl 4 rfl) ?_
    refine lv_icmp_ge (tgt := 35) hx hb dX8_placeOf_8 rfl (fun c_1 => ?_) (fun c_1 => ?_)
    · have nc_1 : n ≤ i := (nI_leI (a := n) (b := i) (by omega) (by omega)).mp c_1
      refine lv_iload_n hx hb dX8_placeOf_35 rfl (lv_at hl 1 rfl) ?_
      exact hs_iret hx hb hr hlocks hK hP hD hS () [0, 1] rfl (hs_upnd rfl) dX8_placeOf_36 (trivial)
    · have nc_1 : ¬ n ≤ i := fun hq9 => c_1 ((nI_leI (a := n) (b := i) (by omega) (by omega)).mpr hq9)
      refine lv_aload_n hx hb dX8_placeOf_11 rfl (lv_at hl 2 rfl) ?_
      refine va_get (D := D) (ci := 7) (v := .ref mo_row) (C := RX8) (T := TX8) (N := 32) hx hb hts hiX8 hown hK hP 0 rfl rfl 18 (Nat.le_of_ble_eq_true rfl) fl26 (fun _ h9 => h9) rfl dX8_placeOf_12 ?_
      refine lv_iload hx hb dX8_placeOf_15 (lv_at hl 0 rfl) ?_
      refine va_iald hx hb hK hP 1 0 rfl rfl (vp_in_nI (show i < 5 by omega) (by decide)) dX8_placeOf_17 ?_
      refine lv_iload_n hx hb dX8_placeOf_18 rfl (lv_at hl 3 rfl) ?_
      refine lv_icmp_ne (tgt := 27) hx hb dX8_placeOf_19 rfl (fun c_2 => ?_) (fun c_2 => ?_)
      · refine lv_iload_n hx hb dX8_placeOf_27 rfl (lv_at hl 1 rfl) ?_
        refine lv_istore_n (lv' := [(3, .int fo), (4, .int (nI i)), (0, .ref mo), (1, .int v), (2, .int (nI n))]) hx hb dX8_placeOf_28 rfl hl (Nat.le_of_ble_eq_true rfl) rfl (fun ls hl => ?_)
        refine lv_iinc (v := nI (i + 1)) (lv' := [(4, .int (nI (i + 1))), (3, .int fo), (0, .ref mo), (1, .int v), (2, .int (nI n))]) hx hb dX8_placeOf_29 hl (k := 1) rfl (nI_add (i) 1) (Nat.le_of_ble_eq_true rfl) rfl (fun ls hl => ?_)
        refine lv_goto (tgt := 5) hx hb dX8_placeOf_32 rfl ?_
        exact ih5 (fo, i + 1) (by (try dsimp only); first | omega | (refine ⟨?_, ?_⟩ <;> first | omega | assumption)) (by (try dsimp only); omega) _ _ _ hP hD hS (lv_sub hl [0, 1, 2, 3, 4] rfl)
      · refine lv_iload hx hb dX8_placeOf_22 (lv_at hl 0 rfl) ?_
        refine lv_goto (tgt := 28) hx hb dX8_placeOf_24 rfl ?_
        refine lv_istore_n (lv' := [(3, .int (nI i)), (4, .int (nI i)), (0, .ref mo), (1, .int v), (2, .int (nI n))]) hx hb dX8_placeOf_28 rfl hl (Nat.le_of_ble_eq_true rfl) rfl (fun ls hl => ?_)
        refine lv_iinc (v := nI (i + 1)) (lv' := [(4, .int (nI (i + 1))), (3, .int (nI i)), (0, .ref mo), (1, .int v), (2, .int (nI n))]) hx hb dX8_placeOf_29 hl (k := 1) rfl (nI_add (i) 1) (Nat.le_of_ble_eq_true rfl) rfl (fun ls hl => ?_)
        refine lv_goto (tgt := 5) hx hb dX8_placeOf_32 rfl ?_
        exact ih5 (nI i, i + 1) (by (try dsimp only); first | omega | (refine ⟨?_, ?_⟩ <;> first | omega | assumption)) (by (try dsimp only); omega) _ _ _ hP hD hS (lv_sub hl [0, 1, 2, 3, 4] rfl)
  · (try dsimp only); first | omega | (refine ⟨?_, ?_⟩ <;> first | omega | assumption)

set_option maxHeartbeats 4000000 in
set_option maxRecDepth 100000 in
theorem gm_isTold (l : Launch) (D : va_G) (k : Nat → ClassId) (sz : Nat) (mo : Nat) (mo_st : Nat) (mo_at : Nat) (mo_isKept : Nat) (mo_pe : Nat) (mo_hm : Nat) (mo_draft : Nat) (mo_dp : Nat) (mo_dh : Nat) (mo_toldLines : Int32) (mo_highest : Int32) (mo_tape : Nat) (mo_tl : Nat) (mo_ps : Nat) (mo_fr : Nat) (mo_sort : Int32) (mo_value : Int32) (mo_ft : Nat) (mo_wrongAt : Int32) (mo_row : Nat) (mo_orderMany : Int32) (mo_fo : Nat) (mo_lightest : Int32) (mo_heaviest : Int32) (mo_before : Nat) (mo_justSum : Int64) (mo_toldSum : Int64) (mo_allWays : Int64) (mo_lanes : Nat) (mo_sizes : Nat) (mo_cells : Nat) (mo_torn : Int32) (mo_had : Nat) (af : Nat → Int32) (rf : Nat → Int32) (c3 : Nat) (n : Nat) (e3 : af 16 = nI c3) (h3 : c3 ≤ 8) (hn : n ≤ 5) : MI l yX8_isTold wsX8_isTold ({ frames := 1, cells := 0, slots := 0, locals := 24 }) D k [.ref mo, .int (nI n)] [oq7 mo mo_st mo_at mo_isKept (nI mo_pe) (nI mo_hm) mo_draft (nI mo_dp) (nI mo_dh) mo_toldLines mo_highest mo_tape (nI mo_tl) (nI mo_ps) (nI mo_fr) mo_sort mo_value (nI mo_ft) mo_wrongAt mo_row mo_orderMany (nI mo_fo) mo_lightest mo_heaviest mo_before mo_justSum mo_toldSum mo_allWays mo_lanes mo_sizes mo_cells mo_torn mo_had, oqI k mo_at 44 (af), oqI k mo_row 5 (rf)] sz (fun (r : Int32) (u : Unit) => True) (fun (u : Unit) => [oq7 mo mo_st mo_at mo_isKept (nI mo_pe) (nI mo_hm) mo_draft (nI mo_dp) (nI mo_dh) mo_toldLines mo_highest mo_tape (nI mo_tl) (nI mo_ps) (nI mo_fr) mo_sort mo_value (nI mo_ft) mo_wrongAt mo_row mo_orderMany (nI mo_fo) mo_lightest mo_heaviest mo_before mo_justSum mo_toldSum mo_allWays mo_lanes mo_sizes mo_cells mo_torn mo_had, oqI k mo_at 44 (af), oqI k mo_row 5 (rf)]) := by
  refine Met.ofW (cc := cX8_isTold) (maxL := 4) (ret := (some .boolean)) hpn_X8 rfl ?_
  intro p e s m args below meth c s₁ B hml hv
  obtain ⟨rfl, hsz, hP, hK, hD0, hN⟩ := hv
  have hx := B.exec
  have hb := B.bytes
  have hr := B.returns
  have hlocks := B.notSynchronized
  have hts := atoms_spec (ws := wsX8_isTold) B.pre
  have hown := findClass_of_methodNamed B.named
  have hown : s.vm.findClass RX8 = some m.cls := hown
  have hiX8 : ∀ w ∈ u_ws RX8 TX8 32, w ∈ wsX8_isTold := fun w9 hw9 => List.mem_cons_of_mem _ (igX8 w9 hw9)
  have fl13 := hts (.fieldLink RX8 13 "HalfScalesModel" "at" "[I") (List.mem_cons_of_mem _ (hs_inG 4 81 rfl rfl))
  subst hsz
  have hD := hD0.self (sz := s.heap.size)
  generalize hAe : va_A [oq7 mo mo_st mo_at mo_isKept (nI mo_pe) (nI mo_hm) mo_draft (nI mo_dp) (nI mo_dh) mo_toldLines mo_highest mo_tape (nI mo_tl) (nI mo_ps) (nI mo_fr) mo_sort mo_value (nI mo_ft) mo_wrongAt mo_row mo_orderMany (nI mo_fo) mo_lightest mo_heaviest mo_before mo_justSum mo_toldSum mo_allWays mo_lanes mo_sizes mo_cells mo_torn mo_had, oqI k mo_at 44 (af), oqI k mo_row 5 (rf)] s.heap.size = A at hD ⊢
  have hA : ∀ q : Nat, s.heap.size ≤ q → A q := fun q h => by rw [← hAe]; exact Or.inr h
  have hS : va_S A s.heap s.heap [] := va_S.rf
  have hl := lv_entry ([.ref mo, .int (nI n)]) (n := 4) (Nat.le_of_ble_eq_true rfl)
  rw [lg_entry_eq]
  generalize (lg_sl ([.ref mo, .int (nI n)]) ++ List.replicate (4 - (lg_sl ([.ref mo, .int (nI n)])).length) Slot.unset).toArray = ls at hl ⊢
  have hl : lv_has ls 4 [(0, .ref mo), (1, .int (nI n))] := hl
  have hP : va_P D vwCl [oq7 mo mo_st mo_at mo_isKept (nI mo_pe) (nI mo_hm) mo_draft (nI mo_dp) (nI mo_dh) mo_toldLines mo_highest mo_tape (nI mo_tl) (nI mo_ps) (nI mo_fr) mo_sort mo_value (nI mo_ft) mo_wrongAt mo_row mo_orderMany (nI mo_fo) mo_lightest mo_heaviest mo_before mo_justSum mo_toldSum mo_allWays mo_lanes mo_sizes mo_cells mo_torn mo_had, oqI k mo_at 44 (af), oqI k mo_row 5 (rf)] s.heap := hP
  refine lv_iconst (v := 1) hx hb dX8_isTold_0 hki_1 ?_
  refine lv_istore_n (lv' := [(2, .int 1), (0, .ref mo), (1, .int (nI n))]) hx hb dX8_isTold_1 rfl hl (Nat.le_of_ble_eq_true rfl) rfl (fun ls hl => ?_)
  refine lv_iconst (v := 0) hx hb dX8_isTold_2 hki_0 ?_
  refine lv_istore_n (lv' := [(3, .int 0), (2, .int 1), (0, .ref mo), (1, .int (nI n))]) hx hb dX8_isTold_3 rfl hl (Nat.le_of_ble_eq_true rfl) rfl (fun ls hl => ?_)
  refine hs_while (σ := Int32 × Nat) (fun x => x.2 ≤ c3 ∧ (x.1 = 0 ∨ x.1 = 1)) (fun x => c3 - x.2) (fun x => [oq7 mo mo_st mo_at mo_isKept (nI mo_pe) (nI mo_hm) mo_draft (nI mo_dp) (nI mo_dh) mo_toldLines mo_highest mo_tape (nI mo_tl) (nI mo_ps) (nI mo_fr) mo_sort mo_value (nI mo_ft) mo_wrongAt mo_row mo_orderMany (nI mo_fo) mo_lightest mo_heaviest mo_before mo_justSum mo_toldSum mo_allWays mo_lanes mo_sizes mo_cells mo_torn mo_had, oqI k mo_at 44 (af), oqI k mo_row 5 (rf)]) (fun x => [(3, .int (nI (x.2))), (2, .int (x.1)), (0, .ref mo), (1, .int (nI n))]) ?_ (1, 0) ?_ hP hD hS hl
  · intro x hI ih4 H locs ls hP hD hS hl
    obtain ⟨iz, i⟩ := x
    try dsimp only at hI
    have hP : va_P D vwCl [oq7 mo mo_st mo_at mo_isKept (nI mo_pe) (nI mo_hm) mo_draft (nI mo_dp) (nI mo_dh) mo_toldLines mo_highest mo_tape (nI mo_tl) (nI mo_ps) (nI mo_fr) mo_sort mo_value (nI mo_ft) mo_wrongAt mo_row mo_orderMany (nI mo_fo) mo_lightest mo_heaviest mo_before mo_justSum mo_toldSum mo_allWays mo_lanes mo_sizes mo_cells mo_torn mo_had, oqI k mo_at 44 (af), oqI k mo_row 5 (rf)] H := hP
    have hD : va_D A [oq7 mo mo_st mo_at mo_isKept (nI mo_pe) (nI mo_hm) mo_draft (nI mo_dp) (nI mo_dh) mo_toldLines mo_highest mo_tape (nI mo_tl) (nI mo_ps) (nI mo_fr) mo_sort mo_value (nI mo_ft) mo_wrongAt mo_row mo_orderMany (nI mo_fo) mo_lightest mo_heaviest mo_before mo_justSum mo_toldSum mo_allWays mo_lanes mo_sizes mo_cells mo_torn mo_had, oqI k mo_at 44 (af), oqI k mo_row 5 (rf)] := hD
    have hl : lv_has ls 4 [(3, .int (nI i)), (2, .int iz), (0, .ref mo), (1, .int (nI n))] := hl
    refine lv_iload_n hx hb dX8_isTold_4 rfl (lv_at hl 0 rfl) ?_
    refine lv_aload_n hx hb dX8_isTold_5 rfl (lv_at hl 2 rfl) ?_
    refine va_get (D := D) (ci := 7) (v := .ref mo_at) (C := RX8) (T := TX8) (N := 32) hx hb hts hiX8 hown hK hP 0 rfl rfl 1 (Nat.le_of_ble_eq_true rfl) fl13 (fun _ h9 => h9) rfl dX8_isTold_6 ?_
    refine lv_bipush (v := 16) hx hb dX8_isTold_9 hkb_16 ?_
    refine va_iald hx hb hK hP 1 0 rfl rfl (hs_in (by decide)) dX8_isTold_11 ?_
    refine hs_topi (nI c3) e3 ?_
    refine lv_icmp_ge (tgt := 68) hx hb dX8_isTold_12 rfl (fun c_1 => ?_) (fun c_1 => ?_)
    · have nc_1 : c3 ≤ i := (nI_leI (a := c3) (b := i) (by omega) (by omega)).mp c_1
      refine lv_iload_n hx hb dX8_isTold_68 rfl (lv_at hl 1 rfl) ?_
      exact hs_zret hx hb hr hlocks hK hP hD hS () [0, 1, 2] rfl (hs_upnd rfl) dX8_isTold_69 (hsb01 hI.2) (trivial)
    · have nc_1 : ¬ c3 ≤ i := fun hq9 => c_1 ((nI_leI (a := c3) (b := i) (by omega) (by omega)).mpr hq9)
      refine lv_iload_n hx hb dX8_isTold_15 rfl (lv_at hl 1 rfl) ?_
      refine lv_if_eq (tgt := 60) hx hb dX8_isTold_16 rfl (fun c_2 => ?_) (fun c_2 => ?_)
      · refine lv_iconst (v := 0) hx hb dX8_isTold_60 hki_0 ?_
        refine lv_istore_n (lv' := [(2, .int 0), (3, .int (nI i)), (0, .ref mo), (1, .int (nI n))]) hx hb dX8_isTold_61 rfl hl (Nat.le_of_ble_eq_true rfl) rfl (fun ls hl => ?_)
        refine lv_iinc (v := nI (i + 1)) (lv' := [(3, .int (nI (i + 1))), (2, .int 0), (0, .ref mo), (1, .int (nI n))]) hx hb dX8_isTold_62 hl (k := 1) rfl (nI_add (i) 1) (Nat.le_of_ble_eq_true rfl) rfl (fun ls hl => ?_)
        refine lv_goto (tgt := 4) hx hb dX8_isTold_65 rfl ?_
        exact ih4 (0, i + 1) (by (try dsimp only); exact ⟨by omega, by first | exact Or.inl rfl | exact Or.inr rfl⟩) (by (try dsimp only); omega) _ _ _ hP hD hS (lv_sub hl [0, 1, 2, 3] rfl)
      · refine lv_aload_n hx hb dX8_isTold_19 rfl (lv_at hl 2 rfl) ?_
        refine lv_aload_n hx hb dX8_isTold_20 rfl (lv_at hl 2 rfl) ?_
        refine va_get (D := D) (ci := 7) (v := .ref mo_at) (C := RX8) (T := TX8) (N := 32) hx hb hts hiX8 hown hK hP 0 rfl rfl 1 (Nat.le_of_ble_eq_true rfl) fl13 (fun _ h9 => h9) rfl dX8_isTold_21 ?_
        refine lv_bipush (v := 17) hx hb dX8_isTold_24 hkb_17 ?_
        refine lv_iload_n hx hb dX8_isTold_26 rfl (lv_at hl 0 rfl) ?_
        refine lv_iadd hx hb dX8_isTold_27 ?_
        refine hs_topi (nI (17 + i)) (nI_add (17) (i)) ?_
        refine va_iald hx hb hK hP 1 0 rfl rfl (vp_in_nI (show (17 + i) < 44 by omega) (by decide)) dX8_isTold_28 ?_
        refine lv_bipush (v := 10) hx hb dX8_isTold_29 hkb_10 ?_
        refine lv_idiv hx hb dX8_isTold_31 (by decide) ?_
        refine lv_iload_n hx hb dX8_isTold_32 rfl (lv_at hl 3 rfl) ?_
        refine hs_ciM (va_runV (As := [.int ((af (nI (17 + i)).toNatClampNeg) / 10), .int (nI n)]) (rest := []) ⟨hx, hb, hml, hown, hts⟩ (gm_placeOf l D k _ mo mo_st mo_at mo_isKept mo_pe mo_hm mo_draft mo_dp mo_dh mo_toldLines mo_highest mo_tape mo_tl mo_ps mo_fr mo_sort mo_value mo_ft mo_wrongAt mo_row mo_orderMany mo_fo mo_lightest mo_heaviest mo_before mo_justSum mo_toldSum mo_allWays mo_lanes mo_sizes mo_cells mo_torn mo_had rf ((af (nI (17 + i)).toNatClampNeg) / 10) n (by omega)) (cwV 2 hts gX8_isTold_X8_placeOf rfl rfl rfl ⟨rfl, hq_X8_placeOf⟩ ⟨Nat.le_of_ble_eq_true rfl, Nat.le_of_ble_eq_true rfl⟩) (hs_preV hK hN (hs_subP (w := [_, _]) hP [0, 2] rfl) (hD.sub (ws' := [_, _]) [0, 2] (hs_upnd rfl) rfl) (ci := 7) (q0 := 0) rfl rfl) rfl rfl hl.1 rfl (lv_room (Nat.le_of_ble_eq_true rfl)) dX8_isTold_33 ⟨Nat.le_of_ble_eq_true rfl, Nat.le_of_ble_eq_true rfl⟩) hP hD hS hA [false, true, false] [_] [_, _] rfl [0, 1] rfl [0, 1] (fun u_5 => [_, _]) (fun _ => rfl) (hs_upnd rfl) [false, true, false] (fun u_5 => [_, _, _]) (fun _ => rfl) (fun r_3 u_5 H locs hw_4 hP hD hS => ?_)
        refine lv_aload_n hx hb dX8_isTold_36 rfl (lv_at hl 2 rfl) ?_
        refine lv_aload_n hx hb dX8_isTold_37 rfl (lv_at hl 2 rfl) ?_
        refine va_get (D := D) (ci := 7) (v := .ref mo_at) (C := RX8) (T := TX8) (N := 32) hx hb hts hiX8 hown hK hP 0 rfl rfl 1 (Nat.le_of_ble_eq_true rfl) fl13 (fun _ h9 => h9) rfl dX8_isTold_38 ?_
        refine lv_bipush (v := 17) hx hb dX8_isTold_41 hkb_17 ?_
        refine lv_iload_n hx hb dX8_isTold_43 rfl (lv_at hl 0 rfl) ?_
        refine lv_iadd hx hb dX8_isTold_44 ?_
        refine hs_topi (nI (17 + i)) (nI_add (17) (i)) ?_
        refine va_iald hx hb hK hP 1 0 rfl rfl (vp_in_nI (show (17 + i) < 44 by omega) (by decide)) dX8_isTold_45 ?_
        refine lv_bipush (v := 10) hx hb dX8_isTold_46 hkb_10 ?_
        refine lv_irem hx hb dX8_isTold_48 (by decide) ?_
        refine lv_iload_n hx hb dX8_isTold_49 rfl (lv_at hl 3 rfl) ?_
        refine hs_ciM (va_runV (As := [.int ((af (nI (17 + i)).toNatClampNeg) - (af (nI (17 + i)).toNatClampNeg) / 10 * 10), .int (nI n)]) (rest := [.int r_3]) ⟨hx, hb, hml, hown, hts⟩ (gm_placeOf l D k _ mo mo_st mo_at mo_isKept mo_pe mo_hm mo_draft mo_dp mo_dh mo_toldLines mo_highest mo_tape mo_tl mo_ps mo_fr mo_sort mo_value mo_ft mo_wrongAt mo_row mo_orderMany mo_fo mo_lightest mo_heaviest mo_before mo_justSum mo_toldSum mo_allWays mo_lanes mo_sizes mo_cells mo_torn mo_had rf ((af (nI (17 + i)).toNatClampNeg) - (af (nI (17 + i)).toNatClampNeg) / 10 * 10) n (by omega)) (cwV 2 hts gX8_isTold_X8_placeOf rfl rfl rfl ⟨rfl, hq_X8_placeOf⟩ ⟨Nat.le_of_ble_eq_true rfl, Nat.le_of_ble_eq_true rfl⟩) (hs_preV hK hN (hs_subP (w := [_, _]) hP [0, 2] rfl) (hD.sub (ws' := [_, _]) [0, 2] (hs_upnd rfl) rfl) (ci := 7) (q0 := 0) rfl rfl) rfl rfl hl.1 rfl (lv_room (Nat.le_of_ble_eq_true rfl)) dX8_isTold_50 ⟨Nat.le_of_ble_eq_true rfl, Nat.le_of_ble_eq_true rfl⟩) hP hD hS hA [false, true, false] [_] [_, _] rfl [0, 1] rfl [0, 1] (fun u_8 => [_, _]) (fun _ => rfl) (hs_upnd rfl) [false, true, false] (fun u_8 => [_, _, _]) (fun _ => rfl) (fun r_6 u_8 H locs hw_7 hP hD hS => ?_)
        refine lv_icmp_ge (tgt := 60) hx hb dX8_isTold_53 rfl (fun c_9 => ?_) (fun c_9 => ?_)
        · refine lv_iconst (v := 0) hx hb dX8_isTold_60 hki_0 ?_
          refine lv_istore_n (lv' := [(2, .int 0), (3, .int (nI i)), (0, .ref mo), (1, .int (nI n))]) hx hb dX8_isTold_61 rfl hl (Nat.le_of_ble_eq_true rfl) rfl (fun ls hl => ?_)
          refine lv_iinc (v := nI (i + 1)) (lv' := [(3, .int (nI (i + 1))), (2, .int 0), (0, .ref mo), (1, .int (nI n))]) hx hb dX8_isTold_62 hl (k := 1) rfl (nI_add (i) 1) (Nat.le_of_ble_eq_true rfl) rfl (fun ls hl => ?_)
          refine lv_goto (tgt := 4) hx hb dX8_isTold_65 rfl ?_
          exact ih4 (0, i + 1) (by (try dsimp only); exact ⟨by omega, by first | exact Or.inl rfl | exact Or.inr rfl⟩) (by (try dsimp only); omega) _ _ _ hP hD hS (lv_sub hl [0, 1, 2, 3] rfl)
        · refine lv_iconst (v := 1) hx hb dX8_isTold_56 hki_1 ?_
          refine lv_goto (tgt := 61) hx hb dX8_isTold_57 rfl ?_
          refine lv_istore_n (lv' := [(2, .int 1), (3, .int (nI i)), (0, .ref mo), (1, .int (nI n))]) hx hb dX8_isTold_61 rfl hl (Nat.le_of_ble_eq_true rfl) rfl (fun ls hl => ?_)
          refine lv_iinc (v := nI (i + 1)) (lv' := [(3, .int (nI (i + 1))), (2, .int 1), (0, .ref mo), (1, .int (nI n))]) hx hb dX8_isTold_62 hl (k := 1) rfl (nI_add (i) 1) (Nat.le_of_ble_eq_true rfl) rfl (fun ls hl => ?_)
          refine lv_goto (tgt := 4) hx hb dX8_isTold_65 rfl ?_
          exact ih4 (1, i + 1) (by (try dsimp only); exact ⟨by omega, by first | exact Or.inl rfl | exact Or.inr rfl⟩) (by (try dsimp only); omega) _ _ _ hP hD hS (lv_sub hl [0, 1, 2, 3] rfl)
  · (try dsimp only); exact ⟨by omega, Or.inr rfl⟩

theorem hs_rowed {rg : Nat → Int32} {x n w : Nat} (hx : 1 ≤ x) (hb : x < 2 ^ 30) (hw : w < n) (h : ∀ j, x ≤ j → j < n → ∃ v : Nat, v < n ∧ rg j = nI v) : ∀ j, x - 1 ≤ j → j < n → ∃ v : Nat, v < n ∧ upd rg (nI x - 1).toNatClampNeg (nI w) j = nI v := by
  intro j h1 h2
  rw [hs_pre_eq hx, nI_clamp (by omega)]
  by_cases e : j = x - 1
  · exact ⟨w, hw, by simp [upd, e]⟩
  · obtain ⟨v, hv, ev⟩ := h j (by omega) h2
    exact ⟨v, hv, by simp only [upd, if_neg e]; exact ev⟩

set_option maxHeartbeats 4000000 in
set_option maxRecDepth 100000 in
theorem gm_isOrder (l : Launch) (D : va_G) (k : Nat → ClassId) (sz : Nat) (mo : Nat) (mo_st : Nat) (mo_at : Nat) (mo_isKept : Nat) (mo_pe : Nat) (mo_hm : Nat) (mo_draft : Nat) (mo_dp : Nat) (mo_dh : Nat) (mo_toldLines : Int32) (mo_highest : Int32) (mo_tape : Nat) (mo_tl : Nat) (mo_ps : Nat) (mo_fr : Nat) (mo_sort : Int32) (mo_value : Int32) (mo_ft : Nat) (mo_wrongAt : Int32) (mo_row : Nat) (mo_orderMany : Int32) (mo_fo : Nat) (mo_lightest : Int32) (mo_heaviest : Int32) (mo_before : Nat) (mo_justSum : Int64) (mo_toldSum : Int64) (mo_allWays : Int64) (mo_lanes : Nat) (mo_sizes : Nat) (mo_cells : Nat) (mo_torn : Int32) (mo_had : Nat) (rf : Nat → Int32) (nb : Nat) (n : Nat) (hb30 : nb < 2 ^ 30) (hn1 : 1 ≤ n) (hn : n ≤ 5) : MI l yX8_isOrder wsX8_isOrder ({ frames := 0, cells := 0, slots := 0, locals := 0 }) D k [.ref mo, .int (nI nb), .int (nI n)] [oq7 mo mo_st mo_at mo_isKept (nI mo_pe) (nI mo_hm) mo_draft (nI mo_dp) (nI mo_dh) mo_toldLines mo_highest mo_tape (nI mo_tl) (nI mo_ps) (nI mo_fr) mo_sort mo_value (nI mo_ft) mo_wrongAt mo_row mo_orderMany (nI mo_fo) mo_lightest mo_heaviest mo_before mo_justSum mo_toldSum mo_allWays mo_lanes mo_sizes mo_cells mo_torn mo_had, oqI k mo_row 5 (rf)] sz (fun (r : Int32) (u : Nat → Int32) => ∀ j, j < n → ∃ v : Nat, v < n ∧ u j = nI v) (fun (u : Nat → Int32) => [oq7 mo mo_st mo_at mo_isKept (nI mo_pe) (nI mo_hm) mo_draft (nI mo_dp) (nI mo_dh) mo_toldLines mo_highest mo_tape (nI mo_tl) (nI mo_ps) (nI mo_fr) mo_sort mo_value (nI mo_ft) mo_wrongAt mo_row mo_orderMany (nI mo_fo) mo_lightest mo_heaviest mo_before mo_justSum mo_toldSum mo_allWays mo_lanes mo_sizes mo_cells mo_torn mo_had, oqI k mo_row 5 (u)]) := by
  refine Met.ofW (cc := cX8_isOrder) (maxL := 6) (ret := (some .boolean)) hpn_X8 rfl ?_
  intro p e s m args below meth c s₁ B hml hv
  obtain ⟨rfl, hsz, hP, hK, hD0, hN⟩ := hv
  have hx := B.exec
  have hb := B.bytes
  have hr := B.returns
  have hlocks := B.notSynchronized
  have hts := atoms_spec (ws := wsX8_isOrder) B.pre
  have hown := findClass_of_methodNamed B.named
  have hown : s.vm.findClass RX8 = some m.cls := hown
  have hiX8 : ∀ w ∈ u_ws RX8 TX8 32, w ∈ wsX8_isOrder := fun w9 hw9 => List.mem_cons_of_mem _ (igX8 w9 hw9)
  have fl26 := hts (.fieldLink RX8 26 "HalfScalesModel" "row" "[I") (List.mem_cons_of_mem _ (hs_inG 4 98 rfl rfl))
  subst hsz
  have hD := hD0.self (sz := s.heap.size)
  generalize hAe : va_A [oq7 mo mo_st mo_at mo_isKept (nI mo_pe) (nI mo_hm) mo_draft (nI mo_dp) (nI mo_dh) mo_toldLines mo_highest mo_tape (nI mo_tl) (nI mo_ps) (nI mo_fr) mo_sort mo_value (nI mo_ft) mo_wrongAt mo_row mo_orderMany (nI mo_fo) mo_lightest mo_heaviest mo_before mo_justSum mo_toldSum mo_allWays mo_lanes mo_sizes mo_cells mo_torn mo_had, oqI k mo_row 5 (rf)] s.heap.size = A at hD ⊢
  have hA : ∀ q : Nat, s.heap.size ≤ q → A q := fun q h => by rw [← hAe]; exact Or.inr h
  have hS : va_S A s.heap s.heap [] := va_S.rf
  have hl := lv_entry ([.ref mo, .int (nI nb), .int (nI n)]) (n := 6) (Nat.le_of_ble_eq_true rfl)
  rw [lg_entry_eq]
  generalize (lg_sl ([.ref mo, .int (nI nb), .int (nI n)]) ++ List.replicate (6 - (lg_sl ([.ref mo, .int (nI nb), .int (nI n)])).length) Slot.unset).toArray = ls at hl ⊢
  have hl : lv_has ls 6 [(0, .ref mo), (1, .int (nI nb)), (2, .int (nI n))] := hl
  have hP : va_P D vwCl [oq7 mo mo_st mo_at mo_isKept (nI mo_pe) (nI mo_hm) mo_draft (nI mo_dp) (nI mo_dh) mo_toldLines mo_highest mo_tape (nI mo_tl) (nI mo_ps) (nI mo_fr) mo_sort mo_value (nI mo_ft) mo_wrongAt mo_row mo_orderMany (nI mo_fo) mo_lightest mo_heaviest mo_before mo_justSum mo_toldSum mo_allWays mo_lanes mo_sizes mo_cells mo_torn mo_had, oqI k mo_row 5 (rf)] s.heap := hP
  refine lv_iload_n hx hb dX8_isOrder_0 rfl (lv_at hl 1 rfl) ?_
  refine lv_istore_n (lv' := [(3, .int (nI nb)), (0, .ref mo), (1, .int (nI nb)), (2, .int (nI n))]) hx hb dX8_isOrder_1 rfl hl (Nat.le_of_ble_eq_true rfl) rfl (fun ls hl => ?_)
  refine lv_iconst (v := 0) hx hb dX8_isOrder_2 hki_0 ?_
  refine lv_istore (lv' := [(4, .int 0), (3, .int (nI nb)), (0, .ref mo), (1, .int (nI nb)), (2, .int (nI n))]) hx hb dX8_isOrder_3 hl (Nat.le_of_ble_eq_true rfl) rfl (fun ls hl => ?_)
  refine lv_iload_n hx hb dX8_isOrder_5 rfl (lv_at hl 4 rfl) ?_
  refine lv_iconst (v := 1) hx hb dX8_isOrder_6 hki_1 ?_
  refine lv_isub hx hb dX8_isOrder_7 ?_
  refine lv_istore (lv' := [(5, .int ((nI n) - 1)), (4, .int 0), (3, .int (nI nb)), (0, .ref mo), (1, .int (nI nb)), (2, .int (nI n))]) hx hb dX8_isOrder_8 hl (Nat.le_of_ble_eq_true rfl) rfl (fun ls hl => ?_)
  refine hs_while (σ := Nat × Int32 × Nat × (Nat → Int32)) (fun x => x.2.2.1 ≤ n ∧ x.1 < 2 ^ 30 ∧ ∀ j, x.2.2.1 ≤ j → j < n → ∃ v : Nat, v < n ∧ x.2.2.2 j = nI v) (fun x => x.2.2.1) (fun x => [oq7 mo mo_st mo_at mo_isKept (nI mo_pe) (nI mo_hm) mo_draft (nI mo_dp) (nI mo_dh) mo_toldLines mo_highest mo_tape (nI mo_tl) (nI mo_ps) (nI mo_fr) mo_sort mo_value (nI mo_ft) mo_wrongAt mo_row mo_orderMany (nI mo_fo) mo_lightest mo_heaviest mo_before mo_justSum mo_toldSum mo_allWays mo_lanes mo_sizes mo_cells mo_torn mo_had, oqI k mo_row 5 ((x.2.2.2))]) (fun x => [(5, .int ((nI (x.2.2.1)) - 1)), (4, .int (x.2.1)), (3, .int (nI (x.1))), (0, .ref mo), (1, .int (nI nb)), (2, .int (nI n))]) ?_ (nb, 0, n, rf) ?_ hP hD hS hl
  · intro x hI ih10 H locs ls hP hD hS hl
    obtain ⟨lf, sm, xx, rg⟩ := x
    try dsimp only at hI
    have hP : va_P D vwCl [oq7 mo mo_st mo_at mo_isKept (nI mo_pe) (nI mo_hm) mo_draft (nI mo_dp) (nI mo_dh) mo_toldLines mo_highest mo_tape (nI mo_tl) (nI mo_ps) (nI mo_fr) mo_sort mo_value (nI mo_ft) mo_wrongAt mo_row mo_orderMany (nI mo_fo) mo_lightest mo_heaviest mo_before mo_justSum mo_toldSum mo_allWays mo_lanes mo_sizes mo_cells mo_torn mo_had, oqI k mo_row 5 (rg)] H := hP
    have hD : va_D A [oq7 mo mo_st mo_at mo_isKept (nI mo_pe) (nI mo_hm) mo_draft (nI mo_dp) (nI mo_dh) mo_toldLines mo_highest mo_tape (nI mo_tl) (nI mo_ps) (nI mo_fr) mo_sort mo_value (nI mo_ft) mo_wrongAt mo_row mo_orderMany (nI mo_fo) mo_lightest mo_heaviest mo_before mo_justSum mo_toldSum mo_allWays mo_lanes mo_sizes mo_cells mo_torn mo_had, oqI k mo_row 5 (rg)] := hD
    have hl : lv_has ls 6 [(5, .int ((nI xx) - 1)), (4, .int sm), (3, .int (nI lf)), (0, .ref mo), (1, .int (nI nb)), (2, .int (nI n))] := hl
    refine lv_iload hx hb dX8_isOrder_10 (lv_at hl 0 rfl) ?_
    refine lv_if_lt (tgt := 49) hx hb dX8_isOrder_12 rfl (fun c_1 => ?_) (fun c_1 => ?_)
    · refine lv_iload hx hb dX8_isOrder_49 (lv_at hl 1 rfl) ?_
      refine lv_iconst (v := 1) hx hb dX8_isOrder_51 hki_1 ?_
      refine lv_iload_n hx hb dX8_isOrder_52 rfl (lv_at hl 5 rfl) ?_
      refine lv_ishl hx hb dX8_isOrder_53 ?_
      refine lv_iconst (v := 1) hx hb dX8_isOrder_54 hki_1 ?_
      refine lv_isub hx hb dX8_isOrder_55 ?_
      refine lv_icmp_ne (tgt := 63) hx hb dX8_isOrder_56 rfl (fun c_2 => ?_) (fun c_2 => ?_)
      · refine lv_iconst (v := 0) hx hb dX8_isOrder_63 hki_0 ?_
        exact hs_zret hx hb hr hlocks hK hP hD hS rg [0, 1] rfl (hs_upnd rfl) dX8_isOrder_64 rfl (fun j hj => hI.2.2 j (by have hx0 : ¬ 1 ≤ xx := (fun h1 => absurd c_1 (by rw [hs_pre_eq h1]; exact nI_pos (by omega))); omega) hj)
      · refine lv_iconst (v := 1) hx hb dX8_isOrder_59 hki_1 ?_
        refine lv_goto (tgt := 64) hx hb dX8_isOrder_60 rfl ?_
        exact hs_zret hx hb hr hlocks hK hP hD hS rg [0, 1] rfl (hs_upnd rfl) dX8_isOrder_64 rfl (fun j hj => hI.2.2 j (by have hx0 : ¬ 1 ≤ xx := (fun h1 => absurd c_1 (by rw [hs_pre_eq h1]; exact nI_pos (by omega))); omega) hj)
    · refine lv_aload_n hx hb dX8_isOrder_15 rfl (lv_at hl 3 rfl) ?_
      refine va_get (D := D) (ci := 7) (v := .ref mo_row) (C := RX8) (T := TX8) (N := 32) hx hb hts hiX8 hown hK hP 0 rfl rfl 18 (Nat.le_of_ble_eq_true rfl) fl26 (fun _ h9 => h9) rfl dX8_isOrder_16 ?_
      refine lv_iload hx hb dX8_isOrder_19 (lv_at hl 0 rfl) ?_
      refine lv_iload_n hx hb dX8_isOrder_21 rfl (lv_at hl 2 rfl) ?_
      refine lv_iload_n hx hb dX8_isOrder_22 rfl (lv_at hl 5 rfl) ?_
      refine lv_irem hx hb dX8_isOrder_23 (nI_ne0 (by omega) (by omega)) ?_
      have hx1 := hs_prege (x := xx) (by omega) c_1
      have hml := Nat.mod_lt lf (show 0 < n by omega)
      have hdl := Nat.div_le_self lf n
      refine hs_topi (nI (lf % n)) (pk_rem (a := lf) (d := n) (by omega) (by omega) (by omega)) ?_
      refine va_iast hx hb hK hP hD hS 1 0 rfl rfl (by rw [hs_pre_eq (hs_prege (by omega) c_1)]; exact vp_in_nI (by omega) (by decide)) dX8_isOrder_24 (fun H locs hP hD hS => ?_)
      have hP : va_P D vwCl [_, oqI k mo_row 5 (upd rg (((nI xx) - 1).toNatClampNeg) (nI (lf % n)))] H := hP
      have hD : va_D A [_, oqI k mo_row 5 (upd rg (((nI xx) - 1).toNatClampNeg) (nI (lf % n)))] := hD
      refine lv_iload_n hx hb dX8_isOrder_25 rfl (lv_at hl 2 rfl) ?_
      refine lv_iload_n hx hb dX8_isOrder_26 rfl (lv_at hl 5 rfl) ?_
      refine lv_idiv hx hb dX8_isOrder_27 (nI_ne0 (by omega) (by omega)) ?_
      refine hs_topi (nI (lf / n)) (pk_div (a := lf) (d := n) (by omega) (by omega) (by omega)) ?_
      refine lv_istore_n (lv' := [(3, .int (nI (lf / n))), (5, .int ((nI xx) - 1)), (4, .int sm), (0, .ref mo), (1, .int (nI nb)), (2, .int (nI n))]) hx hb dX8_isOrder_28 rfl hl (Nat.le_of_ble_eq_true rfl) rfl (fun ls hl => ?_)
      refine lv_iload hx hb dX8_isOrder_29 (lv_at hl 2 rfl) ?_
      refine lv_iconst (v := 1) hx hb dX8_isOrder_31 hki_1 ?_
      refine lv_aload_n hx hb dX8_isOrder_32 rfl (lv_at hl 3 rfl) ?_
      refine va_get (D := D) (ci := 7) (v := .ref mo_row) (C := RX8) (T := TX8) (N := 32) hx hb hts hiX8 hown hK hP 0 rfl rfl 18 (Nat.le_of_ble_eq_true rfl) fl26 (fun _ h9 => h9) rfl dX8_isOrder_33 ?_
      refine lv_iload hx hb dX8_isOrder_36 (lv_at hl 1 rfl) ?_
      refine va_iald hx hb hK hP 1 0 rfl rfl (by rw [hs_pre_eq (hs_prege (by omega) c_1)]; exact vp_in_nI (by omega) (by decide)) dX8_isOrder_38 ?_
      refine lv_ishl hx hb dX8_isOrder_39 ?_
      refine lv_ior hx hb dX8_isOrder_40 ?_
      refine lv_istore (lv' := [(4, .int (sm ||| (1 <<< (((upd rg (((nI xx) - 1).toNatClampNeg) (nI (lf % n))) ((nI xx) - 1).toNatClampNeg) &&& 31)))), (3, .int (nI (lf / n))), (5, .int ((nI xx) - 1)), (0, .ref mo), (1, .int (nI nb)), (2, .int (nI n))]) hx hb dX8_isOrder_41 hl (Nat.le_of_ble_eq_true rfl) rfl (fun ls hl => ?_)
      refine lv_iinc (v := (nI (xx - 1)) - 1) (lv' := [(5, .int ((nI (xx - 1)) - 1)), (4, .int (sm ||| (1 <<< (((upd rg (((nI xx) - 1).toNatClampNeg) (nI (lf % n))) ((nI xx) - 1).toNatClampNeg) &&& 31)))), (3, .int (nI (lf / n))), (0, .ref mo), (1, .int (nI nb)), (2, .int (nI n))]) hx hb dX8_isOrder_43 hl (k := 2) rfl (hs_pre_dec hx1) (Nat.le_of_ble_eq_true rfl) rfl (fun ls hl => ?_)
      refine lv_goto (tgt := 10) hx hb dX8_isOrder_46 rfl ?_
      exact ih10 (lf / n, sm ||| (1 <<< (((upd rg (((nI xx) - 1).toNatClampNeg) (nI (lf % n))) ((nI xx) - 1).toNatClampNeg) &&& 31)), xx - 1, upd rg (((nI xx) - 1).toNatClampNeg) (nI (lf % n))) (by (try dsimp only); exact ⟨by omega, by omega, hs_rowed hx1 (by omega) hml hI.2.2⟩) (by (try dsimp only); omega) _ _ _ hP hD hS (lv_sub hl [0, 1, 2, 3, 4, 5] rfl)
  · (try dsimp only); exact ⟨by omega, by omega, fun j h1 h2 => absurd h2 (by omega)⟩

set_option maxHeartbeats 4000000 in
set_option maxRecDepth 100000 in
theorem gm_findOrders (l : Launch) (D : va_G) (k : Nat → ClassId) (sz : Nat) (mo : Nat) (mo_st : Nat) (mo_at : Nat) (mo_isKept : Nat) (mo_pe : Nat) (mo_hm : Nat) (mo_draft : Nat) (mo_dp : Nat) (mo_dh : Nat) (mo_toldLines : Int32) (mo_highest : Int32) (mo_tape : Nat) (mo_tl : Nat) (mo_ps : Nat) (mo_fr : Nat) (mo_sort : Int32) (mo_value : Int32) (mo_ft : Nat) (mo_wrongAt : Int32) (mo_row : Nat) (mo_orderMany : Int32) (mo_fo : Nat) (mo_lightest : Int32) (mo_heaviest : Int32) (mo_before : Nat) (mo_justSum : Int64) (mo_toldSum : Int64) (mo_allWays : Int64) (mo_lanes : Nat) (mo_sizes : Nat) (mo_cells : Nat) (mo_torn : Int32) (mo_had : Nat) (af : Nat → Int32) (rf : Nat → Int32) (bf : Nat → Int32) (c3 : Nat) (n : Nat) (e3 : af 16 = nI c3) (h3 : c3 ≤ 8) (hn2 : 2 ≤ n) (hn : n ≤ 5) : MV l yX8_findOrders wsX8_findOrders ({ frames := 2, cells := 0, slots := 0, locals := 47 }) D k [.ref mo, .int (nI n)] [oq7 mo mo_st mo_at mo_isKept (nI mo_pe) (nI mo_hm) mo_draft (nI mo_dp) (nI mo_dh) mo_toldLines mo_highest mo_tape (nI mo_tl) (nI mo_ps) (nI mo_fr) mo_sort mo_value (nI mo_ft) mo_wrongAt mo_row mo_orderMany (nI mo_fo) mo_lightest mo_heaviest mo_before mo_justSum mo_toldSum mo_allWays mo_lanes mo_sizes mo_cells mo_torn mo_had, oqI k mo_at 44 (af), oqI k mo_row 5 (rf), oqI k mo_before 25 (bf)] sz (fun (u : (Int32 × Nat × Int32 × Int32) × (Nat → Int32) × (Nat → Int32)) => u.1.2.1 ≤ 3125) (fun (u : (Int32 × Nat × Int32 × Int32) × (Nat → Int32) × (Nat → Int32)) => [oq7 mo mo_st mo_at mo_isKept (nI mo_pe) (nI mo_hm) mo_draft (nI mo_dp) (nI mo_dh) mo_toldLines mo_highest mo_tape (nI mo_tl) (nI mo_ps) (nI mo_fr) mo_sort mo_value (nI mo_ft) mo_wrongAt mo_row u.1.1 (nI (u.1.2.1)) u.1.2.2.1 u.1.2.2.2 mo_before mo_justSum mo_toldSum mo_allWays mo_lanes mo_sizes mo_cells mo_torn mo_had, oqI k mo_at 44 (af), oqI k mo_row 5 (u.2.1), oqI k mo_before 25 (u.2.2)]) := by
  refine Met.ofW (cc := cX8_findOrders) (maxL := 5) (ret := none) hpn_X8 rfl ?_
  intro p e s m args below meth c s₁ B hml hv
  obtain ⟨rfl, hsz, hP, hK, hD0, hN⟩ := hv
  have hx := B.exec
  have hb := B.bytes
  have hr := B.returns
  have hlocks := B.notSynchronized
  have hts := atoms_spec (ws := wsX8_findOrders) B.pre
  have hown := findClass_of_methodNamed B.named
  have hown : s.vm.findClass RX8 = some m.cls := hown
  have hiX8 : ∀ w ∈ u_ws RX8 TX8 32, w ∈ wsX8_findOrders := fun w9 hw9 => List.mem_cons_of_mem _ (igX8 w9 hw9)
  have fl149 := hts (.fieldLink RX8 149 "HalfScalesModel" "orderMany" "I") (List.mem_cons_of_mem _ (hs_inG 4 99 rfl rfl))
  have fl204 := hts (.fieldLink RX8 204 "HalfScalesModel" "firstOrder" "I") (List.mem_cons_of_mem _ (hs_inG 4 100 rfl rfl))
  have fl207 := hts (.fieldLink RX8 207 "HalfScalesModel" "lightest" "I") (List.mem_cons_of_mem _ (hs_inG 4 101 rfl rfl))
  have fl210 := hts (.fieldLink RX8 210 "HalfScalesModel" "heaviest" "I") (List.mem_cons_of_mem _ (hs_inG 4 102 rfl rfl))
  have fl26 := hts (.fieldLink RX8 26 "HalfScalesModel" "row" "[I") (List.mem_cons_of_mem _ (hs_inG 4 98 rfl rfl))
  have fl29 := hts (.fieldLink RX8 29 "HalfScalesModel" "before" "[I") (List.mem_cons_of_mem _ (hs_inG 4 103 rfl rfl))
  obtain ⟨P, hP5, eP⟩ := hs_powP hn2 hn
  subst hsz
  have hD := hD0.self (sz := s.heap.size)
  generalize hAe : va_A [oq7 mo mo_st mo_at mo_isKept (nI mo_pe) (nI mo_hm) mo_draft (nI mo_dp) (nI mo_dh) mo_toldLines mo_highest mo_tape (nI mo_tl) (nI mo_ps) (nI mo_fr) mo_sort mo_value (nI mo_ft) mo_wrongAt mo_row mo_orderMany (nI mo_fo) mo_lightest mo_heaviest mo_before mo_justSum mo_toldSum mo_allWays mo_lanes mo_sizes mo_cells mo_torn mo_had, oqI k mo_at 44 (af), oqI k mo_row 5 (rf), oqI k mo_before 25 (bf)] s.heap.size = A at hD ⊢
  have hA : ∀ q : Nat, s.heap.size ≤ q → A q := fun q h => by rw [← hAe]; exact Or.inr h
  have hS : va_S A s.heap s.heap [] := va_S.rf
  have hl := lv_entry ([.ref mo, .int (nI n)]) (n := 5) (Nat.le_of_ble_eq_true rfl)
  rw [lg_entry_eq]
  generalize (lg_sl ([.ref mo, .int (nI n)]) ++ List.replicate (5 - (lg_sl ([.ref mo, .int (nI n)])).length) Slot.unset).toArray = ls at hl ⊢
  have hl : lv_has ls 5 [(0, .ref mo), (1, .int (nI n))] := hl
  have hP : va_P D vwCl [oq7 mo mo_st mo_at mo_isKept (nI mo_pe) (nI mo_hm) mo_draft (nI mo_dp) (nI mo_dh) mo_toldLines mo_highest mo_tape (nI mo_tl) (nI mo_ps) (nI mo_fr) mo_sort mo_value (nI mo_ft) mo_wrongAt mo_row mo_orderMany (nI mo_fo) mo_lightest mo_heaviest mo_before mo_justSum mo_toldSum mo_allWays mo_lanes mo_sizes mo_cells mo_torn mo_had, oqI k mo_at 44 (af), oqI k mo_row 5 (rf), oqI k mo_before 25 (bf)] s.heap := hP
  refine lv_aload_n hx hb dX8_findOrders_0 rfl (lv_at hl 0 rfl) ?_
  refine lv_iconst (v := 0) hx hb dX8_findOrders_1 hki_0 ?_
  refine va_put (D := D) (ci := 7) (v := .int 0) (ty := .int) (C := RX8) (T := TX8) (N := 32) hx hb hts hiX8 tyX8 tyX8_ok nmX8 hown hK hP hD hS 0 rfl rfl 19 (Nat.le_of_ble_eq_true rfl) fl149 (fun _ h9 => h9) rfl (by decide +kernel) rfl rfl (Nat.le_of_ble_eq_true rfl) dX8_findOrders_2 (fun H locs hP hD hS => ?_)
  have hP : va_P D vwCl [oq7 mo mo_st mo_at mo_isKept (nI mo_pe) (nI mo_hm) mo_draft (nI mo_dp) (nI mo_dh) mo_toldLines mo_highest mo_tape (nI mo_tl) (nI mo_ps) (nI mo_fr) mo_sort mo_value (nI mo_ft) mo_wrongAt mo_row 0 (nI mo_fo) mo_lightest mo_heaviest mo_before mo_justSum mo_toldSum mo_allWays mo_lanes mo_sizes mo_cells mo_torn mo_had, oqI k mo_at 44 (af), oqI k mo_row 5 (rf), oqI k mo_before 25 (bf)] H := hP
  have hD : va_D A [oq7 mo mo_st mo_at mo_isKept (nI mo_pe) (nI mo_hm) mo_draft (nI mo_dp) (nI mo_dh) mo_toldLines mo_highest mo_tape (nI mo_tl) (nI mo_ps) (nI mo_fr) mo_sort mo_value (nI mo_ft) mo_wrongAt mo_row 0 (nI mo_fo) mo_lightest mo_heaviest mo_before mo_justSum mo_toldSum mo_allWays mo_lanes mo_sizes mo_cells mo_torn mo_had, oqI k mo_at 44 (af), oqI k mo_row 5 (rf), oqI k mo_before 25 (bf)] := hD
  refine lv_aload_n hx hb dX8_findOrders_5 rfl (lv_at hl 0 rfl) ?_
  refine lv_iconst (v := 0) hx hb dX8_findOrders_6 hki_0 ?_
  refine va_put (D := D) (ci := 7) (v := .int 0) (ty := .int) (C := RX8) (T := TX8) (N := 32) hx hb hts hiX8 tyX8 tyX8_ok nmX8 hown hK hP hD hS 0 rfl rfl 20 (Nat.le_of_ble_eq_true rfl) fl204 (fun _ h9 => h9) rfl (by decide +kernel) rfl rfl (Nat.le_of_ble_eq_true rfl) dX8_findOrders_7 (fun H locs hP hD hS => ?_)
  have hP : va_P D vwCl [oq7 mo mo_st mo_at mo_isKept (nI mo_pe) (nI mo_hm) mo_draft (nI mo_dp) (nI mo_dh) mo_toldLines mo_highest mo_tape (nI mo_tl) (nI mo_ps) (nI mo_fr) mo_sort mo_value (nI mo_ft) mo_wrongAt mo_row 0 0 mo_lightest mo_heaviest mo_before mo_justSum mo_toldSum mo_allWays mo_lanes mo_sizes mo_cells mo_torn mo_had, _, _, _] H := hP
  have hD : va_D A [oq7 mo mo_st mo_at mo_isKept (nI mo_pe) (nI mo_hm) mo_draft (nI mo_dp) (nI mo_dh) mo_toldLines mo_highest mo_tape (nI mo_tl) (nI mo_ps) (nI mo_fr) mo_sort mo_value (nI mo_ft) mo_wrongAt mo_row 0 0 mo_lightest mo_heaviest mo_before mo_justSum mo_toldSum mo_allWays mo_lanes mo_sizes mo_cells mo_torn mo_had, _, _, _] := hD
  refine lv_aload_n hx hb dX8_findOrders_10 rfl (lv_at hl 0 rfl) ?_
  refine lv_iconst (v := 0) hx hb dX8_findOrders_11 hki_0 ?_
  refine va_put (D := D) (ci := 7) (v := .int 0) (ty := .int) (C := RX8) (T := TX8) (N := 32) hx hb hts hiX8 tyX8 tyX8_ok nmX8 hown hK hP hD hS 0 rfl rfl 21 (Nat.le_of_ble_eq_true rfl) fl207 (fun _ h9 => h9) rfl (by decide +kernel) rfl rfl (Nat.le_of_ble_eq_true rfl) dX8_findOrders_12 (fun H locs hP hD hS => ?_)
  have hP : va_P D vwCl [oq7 mo mo_st mo_at mo_isKept (nI mo_pe) (nI mo_hm) mo_draft (nI mo_dp) (nI mo_dh) mo_toldLines mo_highest mo_tape (nI mo_tl) (nI mo_ps) (nI mo_fr) mo_sort mo_value (nI mo_ft) mo_wrongAt mo_row 0 0 0 mo_heaviest mo_before mo_justSum mo_toldSum mo_allWays mo_lanes mo_sizes mo_cells mo_torn mo_had, _, _, _] H := hP
  have hD : va_D A [oq7 mo mo_st mo_at mo_isKept (nI mo_pe) (nI mo_hm) mo_draft (nI mo_dp) (nI mo_dh) mo_toldLines mo_highest mo_tape (nI mo_tl) (nI mo_ps) (nI mo_fr) mo_sort mo_value (nI mo_ft) mo_wrongAt mo_row 0 0 0 mo_heaviest mo_before mo_justSum mo_toldSum mo_allWays mo_lanes mo_sizes mo_cells mo_torn mo_had, _, _, _] := hD
  refine lv_aload_n hx hb dX8_findOrders_15 rfl (lv_at hl 0 rfl) ?_
  refine lv_iconst (v := 0) hx hb dX8_findOrders_16 hki_0 ?_
  refine va_put (D := D) (ci := 7) (v := .int 0) (ty := .int) (C := RX8) (T := TX8) (N := 32) hx hb hts hiX8 tyX8 tyX8_ok nmX8 hown hK hP hD hS 0 rfl rfl 22 (Nat.le_of_ble_eq_true rfl) fl210 (fun _ h9 => h9) rfl (by decide +kernel) rfl rfl (Nat.le_of_ble_eq_true rfl) dX8_findOrders_17 (fun H locs hP hD hS => ?_)
  have hP : va_P D vwCl [oq7 mo mo_st mo_at mo_isKept (nI mo_pe) (nI mo_hm) mo_draft (nI mo_dp) (nI mo_dh) mo_toldLines mo_highest mo_tape (nI mo_tl) (nI mo_ps) (nI mo_fr) mo_sort mo_value (nI mo_ft) mo_wrongAt mo_row 0 0 0 0 mo_before mo_justSum mo_toldSum mo_allWays mo_lanes mo_sizes mo_cells mo_torn mo_had, _, _, _] H := hP
  have hD : va_D A [oq7 mo mo_st mo_at mo_isKept (nI mo_pe) (nI mo_hm) mo_draft (nI mo_dp) (nI mo_dh) mo_toldLines mo_highest mo_tape (nI mo_tl) (nI mo_ps) (nI mo_fr) mo_sort mo_value (nI mo_ft) mo_wrongAt mo_row 0 0 0 0 mo_before mo_justSum mo_toldSum mo_allWays mo_lanes mo_sizes mo_cells mo_torn mo_had, _, _, _] := hD
  refine lv_iconst (v := 0) hx hb dX8_findOrders_20 hki_0 ?_
  refine lv_istore_n (lv' := [(2, .int 0), (0, .ref mo), (1, .int (nI n))]) hx hb dX8_findOrders_21 rfl hl (Nat.le_of_ble_eq_true rfl) rfl (fun ls hl => ?_)
  refine hs_while (σ := Nat × (Nat → Int32)) (fun x => x.1 ≤ 25) (fun x => 25 - x.1) (fun x => [oq7 mo mo_st mo_at mo_isKept (nI mo_pe) (nI mo_hm) mo_draft (nI mo_dp) (nI mo_dh) mo_toldLines mo_highest mo_tape (nI mo_tl) (nI mo_ps) (nI mo_fr) mo_sort mo_value (nI mo_ft) mo_wrongAt mo_row 0 0 0 0 mo_before mo_justSum mo_toldSum mo_allWays mo_lanes mo_sizes mo_cells mo_torn mo_had, oqI k mo_at 44 (af), oqI k mo_row 5 (rf), oqI k mo_before 25 ((x.2))]) (fun x => [(2, .int (nI (x.1))), (0, .ref mo), (1, .int (nI n))]) ?_ (0, bf) ?_ hP hD hS hl
  · intro x hI ih22 H locs ls hP hD hS hl
    obtain ⟨kk, bg⟩ := x
    try dsimp only at hI
    have hP : va_P D vwCl [_, _, _, oqI k mo_before 25 (bg)] H := hP
    have hD : va_D A [_, _, _, oqI k mo_before 25 (bg)] := hD
    have hl : lv_has ls 5 [(2, .int (nI kk)), (0, .ref mo), (1, .int (nI n))] := hl
    refine lv_iload_n hx hb dX8_findOrders_22 rfl (lv_at hl 0 rfl) ?_
    refine lv_bipush (v := 25) hx hb dX8_findOrders_23 hkb_25 ?_
    refine lv_icmp_ge (tgt := 41) hx hb dX8_findOrders_25 rfl (fun c_1 => ?_) (fun c_1 => ?_)
    · have nc_1 : 25 ≤ kk := (nI_leI (a := 25) (b := kk) (by omega) (by omega)).mp c_1
      refine lv_iconst (v := 0) hx hb dX8_findOrders_41 hki_0 ?_
      refine lv_istore_n (lv' := [(2, .int 0), (0, .ref mo), (1, .int (nI n))]) hx hb dX8_findOrders_42 rfl hl (Nat.le_of_ble_eq_true rfl) rfl (fun ls hl => ?_)
      refine hs_while (σ := Nat × (Nat → Int32) × (Nat → Int32) × Int32 × Nat × Int32 × Int32) (fun x => x.1 ≤ P ∧ x.2.2.2.2.1 ≤ P) (fun x => P - x.1) (fun x => [oq7 mo mo_st mo_at mo_isKept (nI mo_pe) (nI mo_hm) mo_draft (nI mo_dp) (nI mo_dh) mo_toldLines mo_highest mo_tape (nI mo_tl) (nI mo_ps) (nI mo_fr) mo_sort mo_value (nI mo_ft) mo_wrongAt mo_row (x.2.2.2.1) (nI (x.2.2.2.2.1)) (x.2.2.2.2.2.1) (x.2.2.2.2.2.2) mo_before mo_justSum mo_toldSum mo_allWays mo_lanes mo_sizes mo_cells mo_torn mo_had, oqI k mo_at 44 (af), oqI k mo_row 5 ((x.2.1)), oqI k mo_before 25 ((x.2.2.1))]) (fun x => [(2, .int (nI (x.1))), (0, .ref mo), (1, .int (nI n))]) ?_ (0, rf, bg, 0, 0, 0, 0) ?_ hP hD hS hl
      · intro x hI ih43 H locs ls hP hD hS hl
        obtain ⟨nb, rg, bh, om, fio, lig, hea⟩ := x
        try dsimp only at hI
        have hP : va_P D vwCl [oq7 mo mo_st mo_at mo_isKept (nI mo_pe) (nI mo_hm) mo_draft (nI mo_dp) (nI mo_dh) mo_toldLines mo_highest mo_tape (nI mo_tl) (nI mo_ps) (nI mo_fr) mo_sort mo_value (nI mo_ft) mo_wrongAt mo_row om (nI fio) lig hea mo_before mo_justSum mo_toldSum mo_allWays mo_lanes mo_sizes mo_cells mo_torn mo_had, _, oqI k mo_row 5 (rg), oqI k mo_before 25 (bh)] H := hP
        have hD : va_D A [oq7 mo mo_st mo_at mo_isKept (nI mo_pe) (nI mo_hm) mo_draft (nI mo_dp) (nI mo_dh) mo_toldLines mo_highest mo_tape (nI mo_tl) (nI mo_ps) (nI mo_fr) mo_sort mo_value (nI mo_ft) mo_wrongAt mo_row om (nI fio) lig hea mo_before mo_justSum mo_toldSum mo_allWays mo_lanes mo_sizes mo_cells mo_torn mo_had, _, oqI k mo_row 5 (rg), oqI k mo_before 25 (bh)] := hD
        have hl : lv_has ls 5 [(2, .int (nI nb)), (0, .ref mo), (1, .int (nI n))] := hl
        refine lv_iload_n hx hb dX8_findOrders_43 rfl (lv_at hl 0 rfl) ?_
        refine lv_iload_n hx hb dX8_findOrders_44 rfl (lv_at hl 2 rfl) ?_
        refine lv_iload_n hx hb dX8_findOrders_45 rfl (lv_at hl 2 rfl) ?_
        refine hs_pi (va_runS (As := [.int (nI n), .int (nI n)]) (rest := [.int (nI nb)]) ⟨hx, hb, hml, hown, hts⟩ (gm_power l D k _ (nI n) n (by omega)) (va_cwS 2 hts gX8_findOrders_X8_power rfl rfl rfl hq_X8_power ⟨Nat.le_of_ble_eq_true rfl, Nat.le_of_ble_eq_true rfl⟩) (hs_preS hK hN (hs_subP (w := []) hP [] rfl) (hD.sub (ws' := []) [] rfl rfl)) rfl rfl hl.1 rfl (lv_room (Nat.le_of_ble_eq_true rfl)) dX8_findOrders_46 ⟨Nat.le_of_ble_eq_true rfl, Nat.le_of_ble_eq_true rfl⟩) hP hD hS hA (fun r_2 u_4 H locs hw_3 hP hS => ?_)
        refine hs_topi (hspw (nI n) n) hw_3 ?_
        refine hs_topi (nI P) eP ?_
        refine lv_icmp_ge (tgt := 195) hx hb dX8_findOrders_49 rfl (fun c_5 => ?_) (fun c_5 => ?_)
        · have nc_5 : P ≤ nb := (nI_leI (a := P) (b := nb) (by omega) (by omega)).mp c_5
          exact hs_vret hx hb hr hlocks hK hP hD hS ((om, fio, lig, hea), rg, bh) [0, 1, 2, 3] rfl (hs_upnd rfl) dX8_findOrders_195 (by (try dsimp only); omega)
        · have nc_5 : ¬ P ≤ nb := fun hq9 => c_5 ((nI_leI (a := P) (b := nb) (by omega) (by omega)).mpr hq9)
          refine lv_aload_n hx hb dX8_findOrders_52 rfl (lv_at hl 1 rfl) ?_
          refine lv_iload_n hx hb dX8_findOrders_53 rfl (lv_at hl 0 rfl) ?_
          refine lv_iload_n hx hb dX8_findOrders_54 rfl (lv_at hl 2 rfl) ?_
          refine hs_ciM (va_runV (As := [.int (nI nb), .int (nI n)]) (rest := []) ⟨hx, hb, hml, hown, hts⟩ (gm_isOrder l D k _ mo mo_st mo_at mo_isKept mo_pe mo_hm mo_draft mo_dp mo_dh mo_toldLines mo_highest mo_tape mo_tl mo_ps mo_fr mo_sort mo_value mo_ft mo_wrongAt mo_row om fio lig hea mo_before mo_justSum mo_toldSum mo_allWays mo_lanes mo_sizes mo_cells mo_torn mo_had rg nb n (by omega) (by omega) (by omega)) (cwV 2 hts gX8_findOrders_X8_isOrder rfl rfl rfl ⟨rfl, hq_X8_isOrder⟩ ⟨Nat.le_of_ble_eq_true rfl, Nat.le_of_ble_eq_true rfl⟩) (hs_preV hK hN (hs_subP (w := [_, _]) hP [0, 2] rfl) (hD.sub (ws' := [_, _]) [0, 2] (hs_upnd rfl) rfl) (ci := 7) (q0 := 0) rfl rfl) rfl rfl hl.1 rfl (lv_room (Nat.le_of_ble_eq_true rfl)) dX8_findOrders_55 ⟨Nat.le_of_ble_eq_true rfl, Nat.le_of_ble_eq_true rfl⟩) hP hD hS hA [false, true, false, true] [_, _] [_, _] rfl [0, 1] rfl [0, 1] (fun u_8 => [_, _]) (fun _ => rfl) (hs_upnd rfl) [false, true, false, true] (fun u_8 => [_, _, _, _]) (fun _ => rfl) (fun r_6 u_8 H locs hw_7 hP hD hS => ?_)
          have hw_7 : ∀ j, j < n → ∃ v : Nat, v < n ∧ u_8 j = nI v := hw_7
          refine lv_if_eq (tgt := 189) hx hb dX8_findOrders_58 rfl (fun c_9 => ?_) (fun c_9 => ?_)
          · refine lv_iinc (v := nI (nb + 1)) (lv' := [(2, .int (nI (nb + 1))), (0, .ref mo), (1, .int (nI n))]) hx hb dX8_findOrders_189 hl (k := 0) rfl (nI_add (nb) 1) (Nat.le_of_ble_eq_true rfl) rfl (fun ls hl => ?_)
            refine lv_goto (tgt := 43) hx hb dX8_findOrders_192 rfl ?_
            exact ih43 (nb + 1, u_8, bh, om, fio, lig, hea) (by (try dsimp only); first | omega | (refine ⟨?_, ?_⟩ <;> first | omega | assumption)) (by (try dsimp only); omega) _ _ _ hP hD hS (lv_sub hl [0, 1, 2] rfl)
          · refine lv_aload_n hx hb dX8_findOrders_61 rfl (lv_at hl 1 rfl) ?_
            refine lv_iload_n hx hb dX8_findOrders_62 rfl (lv_at hl 2 rfl) ?_
            refine hs_ciM (va_runV (As := [.int (nI n)]) (rest := []) ⟨hx, hb, hml, hown, hts⟩ (gm_isTold l D k _ mo mo_st mo_at mo_isKept mo_pe mo_hm mo_draft mo_dp mo_dh mo_toldLines mo_highest mo_tape mo_tl mo_ps mo_fr mo_sort mo_value mo_ft mo_wrongAt mo_row om fio lig hea mo_before mo_justSum mo_toldSum mo_allWays mo_lanes mo_sizes mo_cells mo_torn mo_had af u_8 c3 n (by first | exact e3a | exact e3) (by omega) (by omega)) (cwV 1 hts gX8_findOrders_X8_isTold rfl rfl rfl ⟨rfl, hq_X8_isTold⟩ ⟨Nat.le_of_ble_eq_true rfl, Nat.le_of_ble_eq_true rfl⟩) (hs_preV hK hN (hs_subP (w := [_, _, _]) hP [0, 1, 2] rfl) (hD.sub (ws' := [_, _, _]) [0, 1, 2] (hs_upnd rfl) rfl) (ci := 7) (q0 := 0) rfl rfl) rfl rfl hl.1 rfl (lv_room (Nat.le_of_ble_eq_true rfl)) dX8_findOrders_63 ⟨Nat.le_of_ble_eq_true rfl, Nat.le_of_ble_eq_true rfl⟩) hP hD hS hA [false, false, false, true] [_] [_, _, _] rfl [0, 1, 2] rfl [0, 1, 2] (fun u_12 => [_, _, _]) (fun _ => rfl) (hs_upnd rfl) [false, false, false, true] (fun u_12 => [_, _, _, _]) (fun _ => rfl) (fun r_10 u_12 H locs hw_11 hP hD hS => ?_)
            refine lv_if_eq (tgt := 189) hx hb dX8_findOrders_66 rfl (fun c_13 => ?_) (fun c_13 => ?_)
            · refine lv_iinc (v := nI (nb + 1)) (lv' := [(2, .int (nI (nb + 1))), (0, .ref mo), (1, .int (nI n))]) hx hb dX8_findOrders_189 hl (k := 0) rfl (nI_add (nb) 1) (Nat.le_of_ble_eq_true rfl) rfl (fun ls hl => ?_)
              refine lv_goto (tgt := 43) hx hb dX8_findOrders_192 rfl ?_
              exact ih43 (nb + 1, u_8, bh, om, fio, lig, hea) (by (try dsimp only); first | omega | (refine ⟨?_, ?_⟩ <;> first | omega | assumption)) (by (try dsimp only); omega) _ _ _ hP hD hS (lv_sub hl [0, 1, 2] rfl)
            · refine lv_aload_n hx hb dX8_findOrders_69 rfl (lv_at hl 1 rfl) ?_
              refine lv_aload_n hx hb dX8_findOrders_70 rfl (lv_at hl 1 rfl) ?_
              refine va_get (D := D) (ci := 7) (v := .int om) (C := RX8) (T := TX8) (N := 32) hx hb hts hiX8 hown hK hP 0 rfl rfl 19 (Nat.le_of_ble_eq_true rfl) fl149 (fun _ h9 => h9) rfl dX8_findOrders_71 ?_
              refine lv_if_ne (tgt := 81) hx hb dX8_findOrders_74 rfl (fun c_14 => ?_) (fun c_14 => ?_)
              · refine lv_aload_n hx hb dX8_findOrders_81 rfl (lv_at hl 1 rfl) ?_
                refine va_get (D := D) (ci := 7) (v := .int (nI fio)) (C := RX8) (T := TX8) (N := 32) hx hb hts hiX8 hown hK hP 0 rfl rfl 20 (Nat.le_of_ble_eq_true rfl) fl204 (fun _ h9 => h9) rfl dX8_findOrders_82 ?_
                refine va_put (D := D) (ci := 7) (v := .int (nI fio)) (ty := .int) (C := RX8) (T := TX8) (N := 32) hx hb hts hiX8 tyX8 tyX8_ok nmX8 hown hK hP hD hS 0 rfl rfl 20 (Nat.le_of_ble_eq_true rfl) fl204 (fun _ h9 => h9) rfl (by decide +kernel) rfl rfl (Nat.le_of_ble_eq_true rfl) dX8_findOrders_85 (fun H locs hP hD hS => ?_)
                have hP : va_P D vwCl [_, _, _, _] H := hP
                have hD : va_D A [_, _, _, _] := hD
                refine lv_aload_n hx hb dX8_findOrders_88 rfl (lv_at hl 1 rfl) ?_
                refine lv_dup hx hb dX8_findOrders_89 rfl ?_
                refine va_get (D := D) (ci := 7) (v := .int om) (C := RX8) (T := TX8) (N := 32) hx hb hts hiX8 hown hK hP 0 rfl rfl 19 (Nat.le_of_ble_eq_true rfl) fl149 (fun _ h9 => h9) rfl dX8_findOrders_90 ?_
                refine lv_iconst (v := 1) hx hb dX8_findOrders_93 hki_1 ?_
                refine lv_iadd hx hb dX8_findOrders_94 ?_
                refine va_put (D := D) (ci := 7) (v := .int (om + 1)) (ty := .int) (C := RX8) (T := TX8) (N := 32) hx hb hts hiX8 tyX8 tyX8_ok nmX8 hown hK hP hD hS 0 rfl rfl 19 (Nat.le_of_ble_eq_true rfl) fl149 (fun _ h9 => h9) rfl (by decide +kernel) rfl rfl (Nat.le_of_ble_eq_true rfl) dX8_findOrders_95 (fun H locs hP hD hS => ?_)
                have hP : va_P D vwCl [oq7 mo mo_st mo_at mo_isKept (nI mo_pe) (nI mo_hm) mo_draft (nI mo_dp) (nI mo_dh) mo_toldLines mo_highest mo_tape (nI mo_tl) (nI mo_ps) (nI mo_fr) mo_sort mo_value (nI mo_ft) mo_wrongAt mo_row (om + 1) (nI fio) lig hea mo_before mo_justSum mo_toldSum mo_allWays mo_lanes mo_sizes mo_cells mo_torn mo_had, _, _, _] H := hP
                have hD : va_D A [oq7 mo mo_st mo_at mo_isKept (nI mo_pe) (nI mo_hm) mo_draft (nI mo_dp) (nI mo_dh) mo_toldLines mo_highest mo_tape (nI mo_tl) (nI mo_ps) (nI mo_fr) mo_sort mo_value (nI mo_ft) mo_wrongAt mo_row (om + 1) (nI fio) lig hea mo_before mo_justSum mo_toldSum mo_allWays mo_lanes mo_sizes mo_cells mo_torn mo_had, _, _, _] := hD
                refine lv_aload_n hx hb dX8_findOrders_98 rfl (lv_at hl 1 rfl) ?_
                refine lv_dup hx hb dX8_findOrders_99 rfl ?_
                refine va_get (D := D) (ci := 7) (v := .int lig) (C := RX8) (T := TX8) (N := 32) hx hb hts hiX8 hown hK hP 0 rfl rfl 21 (Nat.le_of_ble_eq_true rfl) fl207 (fun _ h9 => h9) rfl dX8_findOrders_100 ?_
                refine lv_iconst (v := 1) hx hb dX8_findOrders_103 hki_1 ?_
                refine lv_aload_n hx hb dX8_findOrders_104 rfl (lv_at hl 1 rfl) ?_
                refine va_get (D := D) (ci := 7) (v := .ref mo_row) (C := RX8) (T := TX8) (N := 32) hx hb hts hiX8 hown hK hP 0 rfl rfl 18 (Nat.le_of_ble_eq_true rfl) fl26 (fun _ h9 => h9) rfl dX8_findOrders_105 ?_
                refine lv_iconst (v := 0) hx hb dX8_findOrders_108 hki_0 ?_
                refine va_iald hx hb hK hP 2 0 rfl rfl (hs_in (by decide)) dX8_findOrders_109 ?_
                refine lv_ishl hx hb dX8_findOrders_110 ?_
                refine lv_ior hx hb dX8_findOrders_111 ?_
                refine va_put (D := D) (ci := 7) (v := .int (lig ||| (1 <<< ((u_8 ((0 : Int32).toNatClampNeg)) &&& 31)))) (ty := .int) (C := RX8) (T := TX8) (N := 32) hx hb hts hiX8 tyX8 tyX8_ok nmX8 hown hK hP hD hS 0 rfl rfl 21 (Nat.le_of_ble_eq_true rfl) fl207 (fun _ h9 => h9) rfl (by decide +kernel) rfl rfl (Nat.le_of_ble_eq_true rfl) dX8_findOrders_112 (fun H locs hP hD hS => ?_)
                have hP : va_P D vwCl [oq7 mo mo_st mo_at mo_isKept (nI mo_pe) (nI mo_hm) mo_draft (nI mo_dp) (nI mo_dh) mo_toldLines mo_highest mo_tape (nI mo_tl) (nI mo_ps) (nI mo_fr) mo_sort mo_value (nI mo_ft) mo_wrongAt mo_row (om + 1) (nI fio) (lig ||| (1 <<< ((u_8 ((0 : Int32).toNatClampNeg)) &&& 31))) hea mo_before mo_justSum mo_toldSum mo_allWays mo_lanes mo_sizes mo_cells mo_torn mo_had, _, _, _] H := hP
                have hD : va_D A [oq7 mo mo_st mo_at mo_isKept (nI mo_pe) (nI mo_hm) mo_draft (nI mo_dp) (nI mo_dh) mo_toldLines mo_highest mo_tape (nI mo_tl) (nI mo_ps) (nI mo_fr) mo_sort mo_value (nI mo_ft) mo_wrongAt mo_row (om + 1) (nI fio) (lig ||| (1 <<< ((u_8 ((0 : Int32).toNatClampNeg)) &&& 31))) hea mo_before mo_justSum mo_toldSum mo_allWays mo_lanes mo_sizes mo_cells mo_torn mo_had, _, _, _] := hD
                refine lv_aload_n hx hb dX8_findOrders_115 rfl (lv_at hl 1 rfl) ?_
                refine lv_dup hx hb dX8_findOrders_116 rfl ?_
                refine va_get (D := D) (ci := 7) (v := .int hea) (C := RX8) (T := TX8) (N := 32) hx hb hts hiX8 hown hK hP 0 rfl rfl 22 (Nat.le_of_ble_eq_true rfl) fl210 (fun _ h9 => h9) rfl dX8_findOrders_117 ?_
                refine lv_iconst (v := 1) hx hb dX8_findOrders_120 hki_1 ?_
                refine lv_aload_n hx hb dX8_findOrders_121 rfl (lv_at hl 1 rfl) ?_
                refine va_get (D := D) (ci := 7) (v := .ref mo_row) (C := RX8) (T := TX8) (N := 32) hx hb hts hiX8 hown hK hP 0 rfl rfl 18 (Nat.le_of_ble_eq_true rfl) fl26 (fun _ h9 => h9) rfl dX8_findOrders_122 ?_
                refine lv_iload_n hx hb dX8_findOrders_125 rfl (lv_at hl 2 rfl) ?_
                refine lv_iconst (v := 1) hx hb dX8_findOrders_126 hki_1 ?_
                refine lv_isub hx hb dX8_findOrders_127 ?_
                refine hs_topi (nI (n - 1)) (pk_sub (a := n) (b := 1) (by omega)) ?_
                refine va_iald hx hb hK hP 2 0 rfl rfl (vp_in_nI (show (n - 1) < 5 by omega) (by decide)) dX8_findOrders_128 ?_
                refine lv_ishl hx hb dX8_findOrders_129 ?_
                refine lv_ior hx hb dX8_findOrders_130 ?_
                refine va_put (D := D) (ci := 7) (v := .int (hea ||| (1 <<< ((u_8 (nI (n - 1)).toNatClampNeg) &&& 31)))) (ty := .int) (C := RX8) (T := TX8) (N := 32) hx hb hts hiX8 tyX8 tyX8_ok nmX8 hown hK hP hD hS 0 rfl rfl 22 (Nat.le_of_ble_eq_true rfl) fl210 (fun _ h9 => h9) rfl (by decide +kernel) rfl rfl (Nat.le_of_ble_eq_true rfl) dX8_findOrders_131 (fun H locs hP hD hS => ?_)
                have hP : va_P D vwCl [oq7 mo mo_st mo_at mo_isKept (nI mo_pe) (nI mo_hm) mo_draft (nI mo_dp) (nI mo_dh) mo_toldLines mo_highest mo_tape (nI mo_tl) (nI mo_ps) (nI mo_fr) mo_sort mo_value (nI mo_ft) mo_wrongAt mo_row (om + 1) (nI fio) (lig ||| (1 <<< ((u_8 ((0 : Int32).toNatClampNeg)) &&& 31))) (hea ||| (1 <<< ((u_8 (nI (n - 1)).toNatClampNeg) &&& 31))) mo_before mo_justSum mo_toldSum mo_allWays mo_lanes mo_sizes mo_cells mo_torn mo_had, _, _, _] H := hP
                have hD : va_D A [oq7 mo mo_st mo_at mo_isKept (nI mo_pe) (nI mo_hm) mo_draft (nI mo_dp) (nI mo_dh) mo_toldLines mo_highest mo_tape (nI mo_tl) (nI mo_ps) (nI mo_fr) mo_sort mo_value (nI mo_ft) mo_wrongAt mo_row (om + 1) (nI fio) (lig ||| (1 <<< ((u_8 ((0 : Int32).toNatClampNeg)) &&& 31))) (hea ||| (1 <<< ((u_8 (nI (n - 1)).toNatClampNeg) &&& 31))) mo_before mo_justSum mo_toldSum mo_allWays mo_lanes mo_sizes mo_cells mo_torn mo_had, _, _, _] := hD
                refine lv_iconst (v := 0) hx hb dX8_findOrders_134 hki_0 ?_
                refine lv_istore_n (lv' := [(3, .int 0), (2, .int (nI nb)), (0, .ref mo), (1, .int (nI n))]) hx hb dX8_findOrders_135 rfl hl (Nat.le_of_ble_eq_true rfl) rfl (fun ls hl => ?_)
                refine hs_while (σ := Nat × (Nat → Int32)) (fun x => x.1 ≤ n) (fun x => n - x.1) (fun x => [oq7 mo mo_st mo_at mo_isKept (nI mo_pe) (nI mo_hm) mo_draft (nI mo_dp) (nI mo_dh) mo_toldLines mo_highest mo_tape (nI mo_tl) (nI mo_ps) (nI mo_fr) mo_sort mo_value (nI mo_ft) mo_wrongAt mo_row (om + 1) (nI fio) (lig ||| (1 <<< ((u_8 ((0 : Int32).toNatClampNeg)) &&& 31))) (hea ||| (1 <<< ((u_8 (nI (n - 1)).toNatClampNeg) &&& 31))) mo_before mo_justSum mo_toldSum mo_allWays mo_lanes mo_sizes mo_cells mo_torn mo_had, oqI k mo_at 44 (af), oqI k mo_row 5 (u_8), oqI k mo_before 25 ((x.2))]) (fun x => [(3, .int (nI (x.1))), (2, .int (nI nb)), (0, .ref mo), (1, .int (nI n))]) ?_ (0, bh) ?_ hP hD hS hl
                · intro x hI ih136 H locs ls hP hD hS hl
                  obtain ⟨i, bi⟩ := x
                  try dsimp only at hI
                  have hP : va_P D vwCl [_, _, _, oqI k mo_before 25 (bi)] H := hP
                  have hD : va_D A [_, _, _, oqI k mo_before 25 (bi)] := hD
                  have hl : lv_has ls 5 [(3, .int (nI i)), (2, .int (nI nb)), (0, .ref mo), (1, .int (nI n))] := hl
                  refine lv_iload_n hx hb dX8_findOrders_136 rfl (lv_at hl 0 rfl) ?_
                  refine lv_iload_n hx hb dX8_findOrders_137 rfl (lv_at hl 3 rfl) ?_
                  refine lv_icmp_ge (tgt := 189) hx hb dX8_findOrders_138 rfl (fun c_15 => ?_) (fun c_15 => ?_)
                  · have nc_15 : n ≤ i := (nI_leI (a := n) (b := i) (by omega) (by omega)).mp c_15
                    refine lv_iinc (v := nI (nb + 1)) (lv' := [(2, .int (nI (nb + 1))), (3, .int (nI i)), (0, .ref mo), (1, .int (nI n))]) hx hb dX8_findOrders_189 hl (k := 1) rfl (nI_add (nb) 1) (Nat.le_of_ble_eq_true rfl) rfl (fun ls hl => ?_)
                    refine lv_goto (tgt := 43) hx hb dX8_findOrders_192 rfl ?_
                    exact ih43 (nb + 1, u_8, bi, om + 1, fio, lig ||| (1 <<< ((u_8 ((0 : Int32).toNatClampNeg)) &&& 31)), hea ||| (1 <<< ((u_8 (nI (n - 1)).toNatClampNeg) &&& 31))) (by (try dsimp only); first | omega | (refine ⟨?_, ?_⟩ <;> first | omega | assumption)) (by (try dsimp only); omega) _ _ _ hP hD hS (lv_sub hl [0, 2, 3] rfl)
                  · have nc_15 : ¬ n ≤ i := fun hq9 => c_15 ((nI_leI (a := n) (b := i) (by omega) (by omega)).mpr hq9)
                    refine lv_iload_n hx hb dX8_findOrders_141 rfl (lv_at hl 0 rfl) ?_
                    refine lv_iconst (v := 1) hx hb dX8_findOrders_142 hki_1 ?_
                    refine lv_iadd hx hb dX8_findOrders_143 ?_
                    refine hs_topi (nI (i + 1)) (nI_add (i) (1)) ?_
                    refine lv_istore (lv' := [(4, .int (nI (i + 1))), (3, .int (nI i)), (2, .int (nI nb)), (0, .ref mo), (1, .int (nI n))]) hx hb dX8_findOrders_144 hl (Nat.le_of_ble_eq_true rfl) rfl (fun ls hl => ?_)
                    refine hs_while (σ := Nat × (Nat → Int32)) (fun x => x.1 ≤ n) (fun x => n - x.1) (fun x => [oq7 mo mo_st mo_at mo_isKept (nI mo_pe) (nI mo_hm) mo_draft (nI mo_dp) (nI mo_dh) mo_toldLines mo_highest mo_tape (nI mo_tl) (nI mo_ps) (nI mo_fr) mo_sort mo_value (nI mo_ft) mo_wrongAt mo_row (om + 1) (nI fio) (lig ||| (1 <<< ((u_8 ((0 : Int32).toNatClampNeg)) &&& 31))) (hea ||| (1 <<< ((u_8 (nI (n - 1)).toNatClampNeg) &&& 31))) mo_before mo_justSum mo_toldSum mo_allWays mo_lanes mo_sizes mo_cells mo_torn mo_had, oqI k mo_at 44 (af), oqI k mo_row 5 (u_8), oqI k mo_before 25 ((x.2))]) (fun x => [(4, .int (nI (x.1))), (3, .int (nI i)), (2, .int (nI nb)), (0, .ref mo), (1, .int (nI n))]) ?_ (i + 1, bi) ?_ hP hD hS hl
                    · intro x hI ih146 H locs ls hP hD hS hl
                      obtain ⟨k4, bj⟩ := x
                      try dsimp only at hI
                      have hP : va_P D vwCl [_, _, _, oqI k mo_before 25 (bj)] H := hP
                      have hD : va_D A [_, _, _, oqI k mo_before 25 (bj)] := hD
                      have hl : lv_has ls 5 [(4, .int (nI k4)), (3, .int (nI i)), (2, .int (nI nb)), (0, .ref mo), (1, .int (nI n))] := hl
                      refine lv_iload hx hb dX8_findOrders_146 (lv_at hl 0 rfl) ?_
                      refine lv_iload_n hx hb dX8_findOrders_148 rfl (lv_at hl 4 rfl) ?_
                      refine lv_icmp_ge (tgt := 183) hx hb dX8_findOrders_149 rfl (fun c_16 => ?_) (fun c_16 => ?_)
                      · have nc_16 : n ≤ k4 := (nI_leI (a := n) (b := k4) (by omega) (by omega)).mp c_16
                        refine lv_iinc (v := nI (i + 1)) (lv' := [(3, .int (nI (i + 1))), (4, .int (nI k4)), (2, .int (nI nb)), (0, .ref mo), (1, .int (nI n))]) hx hb dX8_findOrders_183 hl (k := 1) rfl (nI_add (i) 1) (Nat.le_of_ble_eq_true rfl) rfl (fun ls hl => ?_)
                        refine lv_goto (tgt := 136) hx hb dX8_findOrders_186 rfl ?_
                        exact ih136 (i + 1, bj) (by (try dsimp only); first | omega | (refine ⟨?_, ?_⟩ <;> first | omega | assumption)) (by (try dsimp only); omega) _ _ _ hP hD hS (lv_sub hl [0, 2, 3, 4] rfl)
                      · have nc_16 : ¬ n ≤ k4 := fun hq9 => c_16 ((nI_leI (a := n) (b := k4) (by omega) (by omega)).mpr hq9)
                        refine lv_aload_n hx hb dX8_findOrders_152 rfl (lv_at hl 3 rfl) ?_
                        refine va_get (D := D) (ci := 7) (v := .ref mo_before) (C := RX8) (T := TX8) (N := 32) hx hb hts hiX8 hown hK hP 0 rfl rfl 23 (Nat.le_of_ble_eq_true rfl) fl29 (fun _ h9 => h9) rfl dX8_findOrders_153 ?_
                        refine lv_iconst (v := 5) hx hb dX8_findOrders_156 hki_5 ?_
                        refine lv_aload_n hx hb dX8_findOrders_157 rfl (lv_at hl 3 rfl) ?_
                        refine va_get (D := D) (ci := 7) (v := .ref mo_row) (C := RX8) (T := TX8) (N := 32) hx hb hts hiX8 hown hK hP 0 rfl rfl 18 (Nat.le_of_ble_eq_true rfl) fl26 (fun _ h9 => h9) rfl dX8_findOrders_158 ?_
                        refine lv_iload_n hx hb dX8_findOrders_161 rfl (lv_at hl 1 rfl) ?_
                        refine va_iald hx hb hK hP 2 0 rfl rfl (vp_in_nI (show i < 5 by omega) (by decide)) dX8_findOrders_162 ?_
                        obtain ⟨v1, hv1, ev1⟩ := hw_7 (i) (by omega)
                        refine hs_topi (nI v1) (by rw [nI_clamp (by omega)]; exact ev1) ?_
                        refine lv_imul hx hb dX8_findOrders_163 ?_
                        refine hs_topi (nI (5 * v1)) (pk_mul (5) (v1)) ?_
                        refine lv_aload_n hx hb dX8_findOrders_164 rfl (lv_at hl 3 rfl) ?_
                        refine va_get (D := D) (ci := 7) (v := .ref mo_row) (C := RX8) (T := TX8) (N := 32) hx hb hts hiX8 hown hK hP 0 rfl rfl 18 (Nat.le_of_ble_eq_true rfl) fl26 (fun _ h9 => h9) rfl dX8_findOrders_165 ?_
                        refine lv_iload hx hb dX8_findOrders_168 (lv_at hl 0 rfl) ?_
                        refine va_iald hx hb hK hP 2 0 rfl rfl (vp_in_nI (show k4 < 5 by omega) (by decide)) dX8_findOrders_170 ?_
                        obtain ⟨v2, hv2, ev2⟩ := hw_7 (k4) (by omega)
                        refine hs_topi (nI v2) (by rw [nI_clamp (by omega)]; exact ev2) ?_
                        refine lv_iadd hx hb dX8_findOrders_171 ?_
                        refine hs_topi (nI ((5 * v1) + v2)) (nI_add ((5 * v1)) (v2)) ?_
                        refine lv_dup2_11 hx hb dX8_findOrders_172 rfl rfl ?_
                        refine va_iald hx hb hK hP 3 0 rfl rfl (vp_in_nI (show ((5 * v1) + v2) < 25 by omega) (by decide)) dX8_findOrders_173 ?_
                        refine lv_iconst (v := 1) hx hb dX8_findOrders_174 hki_1 ?_
                        refine lv_iadd hx hb dX8_findOrders_175 ?_
                        refine va_iast hx hb hK hP hD hS 3 0 rfl rfl (vp_in_nI (show ((5 * v1) + v2) < 25 by omega) (by decide)) dX8_findOrders_176 (fun H locs hP hD hS => ?_)
                        have hP : va_P D vwCl [_, _, _, oqI k mo_before 25 (upd bj ((nI ((5 * v1) + v2)).toNatClampNeg) ((bj (nI ((5 * v1) + v2)).toNatClampNeg) + 1))] H := hP
                        have hD : va_D A [_, _, _, oqI k mo_before 25 (upd bj ((nI ((5 * v1) + v2)).toNatClampNeg) ((bj (nI ((5 * v1) + v2)).toNatClampNeg) + 1))] := hD
                        refine lv_iinc (v := nI (k4 + 1)) (lv' := [(4, .int (nI (k4 + 1))), (3, .int (nI i)), (2, .int (nI nb)), (0, .ref mo), (1, .int (nI n))]) hx hb dX8_findOrders_177 hl (k := 0) rfl (nI_add (k4) 1) (Nat.le_of_ble_eq_true rfl) rfl (fun ls hl => ?_)
                        refine lv_goto (tgt := 146) hx hb dX8_findOrders_180 rfl ?_
                        exact ih146 (k4 + 1, upd bj ((nI ((5 * v1) + v2)).toNatClampNeg) ((bj (nI ((5 * v1) + v2)).toNatClampNeg) + 1)) (by (try dsimp only); first | omega | (refine ⟨?_, ?_⟩ <;> first | omega | assumption)) (by (try dsimp only); omega) _ _ _ hP hD hS (lv_sub hl [0, 1, 2, 3, 4] rfl)
                    · (try dsimp only); first | omega | (refine ⟨?_, ?_⟩ <;> first | omega | assumption)
                · (try dsimp only); first | omega | (refine ⟨?_, ?_⟩ <;> first | omega | assumption)
              · refine lv_iload_n hx hb dX8_findOrders_77 rfl (lv_at hl 0 rfl) ?_
                refine lv_goto (tgt := 85) hx hb dX8_findOrders_78 rfl ?_
                refine va_put (D := D) (ci := 7) (v := .int (nI nb)) (ty := .int) (C := RX8) (T := TX8) (N := 32) hx hb hts hiX8 tyX8 tyX8_ok nmX8 hown hK hP hD hS 0 rfl rfl 20 (Nat.le_of_ble_eq_true rfl) fl204 (fun _ h9 => h9) rfl (by decide +kernel) rfl rfl (Nat.le_of_ble_eq_true rfl) dX8_findOrders_85 (fun H locs hP hD hS => ?_)
                have hP : va_P D vwCl [oq7 mo mo_st mo_at mo_isKept (nI mo_pe) (nI mo_hm) mo_draft (nI mo_dp) (nI mo_dh) mo_toldLines mo_highest mo_tape (nI mo_tl) (nI mo_ps) (nI mo_fr) mo_sort mo_value (nI mo_ft) mo_wrongAt mo_row om (nI nb) lig hea mo_before mo_justSum mo_toldSum mo_allWays mo_lanes mo_sizes mo_cells mo_torn mo_had, _, _, oqI k mo_before 25 (bh)] H := hP
                have hD : va_D A [oq7 mo mo_st mo_at mo_isKept (nI mo_pe) (nI mo_hm) mo_draft (nI mo_dp) (nI mo_dh) mo_toldLines mo_highest mo_tape (nI mo_tl) (nI mo_ps) (nI mo_fr) mo_sort mo_value (nI mo_ft) mo_wrongAt mo_row om (nI nb) lig hea mo_before mo_justSum mo_toldSum mo_allWays mo_lanes mo_sizes mo_cells mo_torn mo_had, _, _, oqI k mo_before 25 (bh)] := hD
                refine lv_aload_n hx hb dX8_findOrders_88 rfl (lv_at hl 1 rfl) ?_
                refine lv_dup hx hb dX8_findOrders_89 rfl ?_
                refine va_get (D := D) (ci := 7) (v := .int om) (C := RX8) (T := TX8) (N := 32) hx hb hts hiX8 hown hK hP 0 rfl rfl 19 (Nat.le_of_ble_eq_true rfl) fl149 (fun _ h9 => h9) rfl dX8_findOrders_90 ?_
                refine lv_iconst (v := 1) hx hb dX8_findOrders_93 hki_1 ?_
                refine lv_iadd hx hb dX8_findOrders_94 ?_
                refine va_put (D := D) (ci := 7) (v := .int (om + 1)) (ty := .int) (C := RX8) (T := TX8) (N := 32) hx hb hts hiX8 tyX8 tyX8_ok nmX8 hown hK hP hD hS 0 rfl rfl 19 (Nat.le_of_ble_eq_true rfl) fl149 (fun _ h9 => h9) rfl (by decide +kernel) rfl rfl (Nat.le_of_ble_eq_true rfl) dX8_findOrders_95 (fun H locs hP hD hS => ?_)
                have hP : va_P D vwCl [oq7 mo mo_st mo_at mo_isKept (nI mo_pe) (nI mo_hm) mo_draft (nI mo_dp) (nI mo_dh) mo_toldLines mo_highest mo_tape (nI mo_tl) (nI mo_ps) (nI mo_fr) mo_sort mo_value (nI mo_ft) mo_wrongAt mo_row (om + 1) (nI nb) lig hea mo_before mo_justSum mo_toldSum mo_allWays mo_lanes mo_sizes mo_cells mo_torn mo_had, _, _, _] H := hP
                have hD : va_D A [oq7 mo mo_st mo_at mo_isKept (nI mo_pe) (nI mo_hm) mo_draft (nI mo_dp) (nI mo_dh) mo_toldLines mo_highest mo_tape (nI mo_tl) (nI mo_ps) (nI mo_fr) mo_sort mo_value (nI mo_ft) mo_wrongAt mo_row (om + 1) (nI nb) lig hea mo_before mo_justSum mo_toldSum mo_allWays mo_lanes mo_sizes mo_cells mo_torn mo_had, _, _, _] := hD
                refine lv_aload_n hx hb dX8_findOrders_98 rfl (lv_at hl 1 rfl) ?_
                refine lv_dup hx hb dX8_findOrders_99 rfl ?_
                refine va_get (D := D) (ci := 7) (v := .int lig) (C := RX8) (T := TX8) (N := 32) hx hb hts hiX8 hown hK hP 0 rfl rfl 21 (Nat.le_of_ble_eq_true rfl) fl207 (fun _ h9 => h9) rfl dX8_findOrders_100 ?_
                refine lv_iconst (v := 1) hx hb dX8_findOrders_103 hki_1 ?_
                refine lv_aload_n hx hb dX8_findOrders_104 rfl (lv_at hl 1 rfl) ?_
                refine va_get (D := D) (ci := 7) (v := .ref mo_row) (C := RX8) (T := TX8) (N := 32) hx hb hts hiX8 hown hK hP 0 rfl rfl 18 (Nat.le_of_ble_eq_true rfl) fl26 (fun _ h9 => h9) rfl dX8_findOrders_105 ?_
                refine lv_iconst (v := 0) hx hb dX8_findOrders_108 hki_0 ?_
                refine va_iald hx hb hK hP 2 0 rfl rfl (hs_in (by decide)) dX8_findOrders_109 ?_
                refine lv_ishl hx hb dX8_findOrders_110 ?_
                refine lv_ior hx hb dX8_findOrders_111 ?_
                refine va_put (D := D) (ci := 7) (v := .int (lig ||| (1 <<< ((u_8 ((0 : Int32).toNatClampNeg)) &&& 31)))) (ty := .int) (C := RX8) (T := TX8) (N := 32) hx hb hts hiX8 tyX8 tyX8_ok nmX8 hown hK hP hD hS 0 rfl rfl 21 (Nat.le_of_ble_eq_true rfl) fl207 (fun _ h9 => h9) rfl (by decide +kernel) rfl rfl (Nat.le_of_ble_eq_true rfl) dX8_findOrders_112 (fun H locs hP hD hS => ?_)
                have hP : va_P D vwCl [oq7 mo mo_st mo_at mo_isKept (nI mo_pe) (nI mo_hm) mo_draft (nI mo_dp) (nI mo_dh) mo_toldLines mo_highest mo_tape (nI mo_tl) (nI mo_ps) (nI mo_fr) mo_sort mo_value (nI mo_ft) mo_wrongAt mo_row (om + 1) (nI nb) (lig ||| (1 <<< ((u_8 ((0 : Int32).toNatClampNeg)) &&& 31))) hea mo_before mo_justSum mo_toldSum mo_allWays mo_lanes mo_sizes mo_cells mo_torn mo_had, _, _, _] H := hP
                have hD : va_D A [oq7 mo mo_st mo_at mo_isKept (nI mo_pe) (nI mo_hm) mo_draft (nI mo_dp) (nI mo_dh) mo_toldLines mo_highest mo_tape (nI mo_tl) (nI mo_ps) (nI mo_fr) mo_sort mo_value (nI mo_ft) mo_wrongAt mo_row (om + 1) (nI nb) (lig ||| (1 <<< ((u_8 ((0 : Int32).toNatClampNeg)) &&& 31))) hea mo_before mo_justSum mo_toldSum mo_allWays mo_lanes mo_sizes mo_cells mo_torn mo_had, _, _, _] := hD
                refine lv_aload_n hx hb dX8_findOrders_115 rfl (lv_at hl 1 rfl) ?_
                refine lv_dup hx hb dX8_findOrders_116 rfl ?_
                refine va_get (D := D) (ci := 7) (v := .int hea) (C := RX8) (T := TX8) (N := 32) hx hb hts hiX8 hown hK hP 0 rfl rfl 22 (Nat.le_of_ble_eq_true rfl) fl210 (fun _ h9 => h9) rfl dX8_findOrders_117 ?_
                refine lv_iconst (v := 1) hx hb dX8_findOrders_120 hki_1 ?_
                refine lv_aload_n hx hb dX8_findOrders_121 rfl (lv_at hl 1 rfl) ?_
                refine va_get (D := D) (ci := 7) (v := .ref mo_row) (C := RX8) (T := TX8) (N := 32) hx hb hts hiX8 hown hK hP 0 rfl rfl 18 (Nat.le_of_ble_eq_true rfl) fl26 (fun _ h9 => h9) rfl dX8_findOrders_122 ?_
                refine lv_iload_n hx hb dX8_findOrders_125 rfl (lv_at hl 2 rfl) ?_
                refine lv_iconst (v := 1) hx hb dX8_findOrders_126 hki_1 ?_
                refine lv_isub hx hb dX8_findOrders_127 ?_
                refine hs_topi (nI (n - 1)) (pk_sub (a := n) (b := 1) (by omega)) ?_
                refine va_iald hx hb hK hP 2 0 rfl rfl (vp_in_nI (show (n - 1) < 5 by omega) (by decide)) dX8_findOrders_128 ?_
                refine lv_ishl hx hb dX8_findOrders_129 ?_
                refine lv_ior hx hb dX8_findOrders_130 ?_
                refine va_put (D := D) (ci := 7) (v := .int (hea ||| (1 <<< ((u_8 (nI (n - 1)).toNatClampNeg) &&& 31)))) (ty := .int) (C := RX8) (T := TX8) (N := 32) hx hb hts hiX8 tyX8 tyX8_ok nmX8 hown hK hP hD hS 0 rfl rfl 22 (Nat.le_of_ble_eq_true rfl) fl210 (fun _ h9 => h9) rfl (by decide +kernel) rfl rfl (Nat.le_of_ble_eq_true rfl) dX8_findOrders_131 (fun H locs hP hD hS => ?_)
                have hP : va_P D vwCl [oq7 mo mo_st mo_at mo_isKept (nI mo_pe) (nI mo_hm) mo_draft (nI mo_dp) (nI mo_dh) mo_toldLines mo_highest mo_tape (nI mo_tl) (nI mo_ps) (nI mo_fr) mo_sort mo_value (nI mo_ft) mo_wrongAt mo_row (om + 1) (nI nb) (lig ||| (1 <<< ((u_8 ((0 : Int32).toNatClampNeg)) &&& 31))) (hea ||| (1 <<< ((u_8 (nI (n - 1)).toNatClampNeg) &&& 31))) mo_before mo_justSum mo_toldSum mo_allWays mo_lanes mo_sizes mo_cells mo_torn mo_had, _, _, _] H := hP
                have hD : va_D A [oq7 mo mo_st mo_at mo_isKept (nI mo_pe) (nI mo_hm) mo_draft (nI mo_dp) (nI mo_dh) mo_toldLines mo_highest mo_tape (nI mo_tl) (nI mo_ps) (nI mo_fr) mo_sort mo_value (nI mo_ft) mo_wrongAt mo_row (om + 1) (nI nb) (lig ||| (1 <<< ((u_8 ((0 : Int32).toNatClampNeg)) &&& 31))) (hea ||| (1 <<< ((u_8 (nI (n - 1)).toNatClampNeg) &&& 31))) mo_before mo_justSum mo_toldSum mo_allWays mo_lanes mo_sizes mo_cells mo_torn mo_had, _, _, _] := hD
                refine lv_iconst (v := 0) hx hb dX8_findOrders_134 hki_0 ?_
                refine lv_istore_n (lv' := [(3, .int 0), (2, .int (nI nb)), (0, .ref mo), (1, .int (nI n))]) hx hb dX8_findOrders_135 rfl hl (Nat.le_of_ble_eq_true rfl) rfl (fun ls hl => ?_)
                refine hs_while (σ := Nat × (Nat → Int32)) (fun x => x.1 ≤ n) (fun x => n - x.1) (fun x => [oq7 mo mo_st mo_at mo_isKept (nI mo_pe) (nI mo_hm) mo_draft (nI mo_dp) (nI mo_dh) mo_toldLines mo_highest mo_tape (nI mo_tl) (nI mo_ps) (nI mo_fr) mo_sort mo_value (nI mo_ft) mo_wrongAt mo_row (om + 1) (nI nb) (lig ||| (1 <<< ((u_8 ((0 : Int32).toNatClampNeg)) &&& 31))) (hea ||| (1 <<< ((u_8 (nI (n - 1)).toNatClampNeg) &&& 31))) mo_before mo_justSum mo_toldSum mo_allWays mo_lanes mo_sizes mo_cells mo_torn mo_had, oqI k mo_at 44 (af), oqI k mo_row 5 (u_8), oqI k mo_before 25 ((x.2))]) (fun x => [(3, .int (nI (x.1))), (2, .int (nI nb)), (0, .ref mo), (1, .int (nI n))]) ?_ (0, bh) ?_ hP hD hS hl
                · intro x hI ih136 H locs ls hP hD hS hl
                  obtain ⟨i, bi⟩ := x
                  try dsimp only at hI
                  have hP : va_P D vwCl [_, _, _, oqI k mo_before 25 (bi)] H := hP
                  have hD : va_D A [_, _, _, oqI k mo_before 25 (bi)] := hD
                  have hl : lv_has ls 5 [(3, .int (nI i)), (2, .int (nI nb)), (0, .ref mo), (1, .int (nI n))] := hl
                  refine lv_iload_n hx hb dX8_findOrders_136 rfl (lv_at hl 0 rfl) ?_
                  refine lv_iload_n hx hb dX8_findOrders_137 rfl (lv_at hl 3 rfl) ?_
                  refine lv_icmp_ge (tgt := 189) hx hb dX8_findOrders_138 rfl (fun c_17 => ?_) (fun c_17 => ?_)
                  · have nc_17 : n ≤ i := (nI_leI (a := n) (b := i) (by omega) (by omega)).mp c_17
                    refine lv_iinc (v := nI (nb + 1)) (lv' := [(2, .int (nI (nb + 1))), (3, .int (nI i)), (0, .ref mo), (1, .int (nI n))]) hx hb dX8_findOrders_189 hl (k := 1) rfl (nI_add (nb) 1) (Nat.le_of_ble_eq_true rfl) rfl (fun ls hl => ?_)
                    refine lv_goto (tgt := 43) hx hb dX8_findOrders_192 rfl ?_
                    exact ih43 (nb + 1, u_8, bi, om + 1, nb, lig ||| (1 <<< ((u_8 ((0 : Int32).toNatClampNeg)) &&& 31)), hea ||| (1 <<< ((u_8 (nI (n - 1)).toNatClampNeg) &&& 31))) (by (try dsimp only); first | omega | (refine ⟨?_, ?_⟩ <;> first | omega | assumption)) (by (try dsimp only); omega) _ _ _ hP hD hS (lv_sub hl [0, 2, 3] rfl)
                  · have nc_17 : ¬ n ≤ i := fun hq9 => c_17 ((nI_leI (a := n) (b := i) (by omega) (by omega)).mpr hq9)
                    refine lv_iload_n hx hb dX8_findOrders_141 rfl (lv_at hl 0 rfl) ?_
                    refine lv_iconst (v := 1) hx hb dX8_findOrders_142 hki_1 ?_
                    refine lv_iadd hx hb dX8_findOrders_143 ?_
                    refine hs_topi (nI (i + 1)) (nI_add (i) (1)) ?_
                    refine lv_istore (lv' := [(4, .int (nI (i + 1))), (3, .int (nI i)), (2, .int (nI nb)), (0, .ref mo), (1, .int (nI n))]) hx hb dX8_findOrders_144 hl (Nat.le_of_ble_eq_true rfl) rfl (fun ls hl => ?_)
                    refine hs_while (σ := Nat × (Nat → Int32)) (fun x => x.1 ≤ n) (fun x => n - x.1) (fun x => [oq7 mo mo_st mo_at mo_isKept (nI mo_pe) (nI mo_hm) mo_draft (nI mo_dp) (nI mo_dh) mo_toldLines mo_highest mo_tape (nI mo_tl) (nI mo_ps) (nI mo_fr) mo_sort mo_value (nI mo_ft) mo_wrongAt mo_row (om + 1) (nI nb) (lig ||| (1 <<< ((u_8 ((0 : Int32).toNatClampNeg)) &&& 31))) (hea ||| (1 <<< ((u_8 (nI (n - 1)).toNatClampNeg) &&& 31))) mo_before mo_justSum mo_toldSum mo_allWays mo_lanes mo_sizes mo_cells mo_torn mo_had, oqI k mo_at 44 (af), oqI k mo_row 5 (u_8), oqI k mo_before 25 ((x.2))]) (fun x => [(4, .int (nI (x.1))), (3, .int (nI i)), (2, .int (nI nb)), (0, .ref mo), (1, .int (nI n))]) ?_ (i + 1, bi) ?_ hP hD hS hl
                    · intro x hI ih146 H locs ls hP hD hS hl
                      obtain ⟨k4, bj⟩ := x
                      try dsimp only at hI
                      have hP : va_P D vwCl [_, _, _, oqI k mo_before 25 (bj)] H := hP
                      have hD : va_D A [_, _, _, oqI k mo_before 25 (bj)] := hD
                      have hl : lv_has ls 5 [(4, .int (nI k4)), (3, .int (nI i)), (2, .int (nI nb)), (0, .ref mo), (1, .int (nI n))] := hl
                      refine lv_iload hx hb dX8_findOrders_146 (lv_at hl 0 rfl) ?_
                      refine lv_iload_n hx hb dX8_findOrders_148 rfl (lv_at hl 4 rfl) ?_
                      refine lv_icmp_ge (tgt := 183) hx hb dX8_findOrders_149 rfl (fun c_18 => ?_) (fun c_18 => ?_)
                      · have nc_18 : n ≤ k4 := (nI_leI (a := n) (b := k4) (by omega) (by omega)).mp c_18
                        refine lv_iinc (v := nI (i + 1)) (lv' := [(3, .int (nI (i + 1))), (4, .int (nI k4)), (2, .int (nI nb)), (0, .ref mo), (1, .int (nI n))]) hx hb dX8_findOrders_183 hl (k := 1) rfl (nI_add (i) 1) (Nat.le_of_ble_eq_true rfl) rfl (fun ls hl => ?_)
                        refine lv_goto (tgt := 136) hx hb dX8_findOrders_186 rfl ?_
                        exact ih136 (i + 1, bj) (by (try dsimp only); first | omega | (refine ⟨?_, ?_⟩ <;> first | omega | assumption)) (by (try dsimp only); omega) _ _ _ hP hD hS (lv_sub hl [0, 2, 3, 4] rfl)
                      · have nc_18 : ¬ n ≤ k4 := fun hq9 => c_18 ((nI_leI (a := n) (b := k4) (by omega) (by omega)).mpr hq9)
                        refine lv_aload_n hx hb dX8_findOrders_152 rfl (lv_at hl 3 rfl) ?_
                        refine va_get (D := D) (ci := 7) (v := .ref mo_before) (C := RX8) (T := TX8) (N := 32) hx hb hts hiX8 hown hK hP 0 rfl rfl 23 (Nat.le_of_ble_eq_true rfl) fl29 (fun _ h9 => h9) rfl dX8_findOrders_153 ?_
                        refine lv_iconst (v := 5) hx hb dX8_findOrders_156 hki_5 ?_
                        refine lv_aload_n hx hb dX8_findOrders_157 rfl (lv_at hl 3 rfl) ?_
                        refine va_get (D := D) (ci := 7) (v := .ref mo_row) (C := RX8) (T := TX8) (N := 32) hx hb hts hiX8 hown hK hP 0 rfl rfl 18 (Nat.le_of_ble_eq_true rfl) fl26 (fun _ h9 => h9) rfl dX8_findOrders_158 ?_
                        refine lv_iload_n hx hb dX8_findOrders_161 rfl (lv_at hl 1 rfl) ?_
                        refine va_iald hx hb hK hP 2 0 rfl rfl (vp_in_nI (show i < 5 by omega) (by decide)) dX8_findOrders_162 ?_
                        obtain ⟨v1, hv1, ev1⟩ := hw_7 (i) (by omega)
                        refine hs_topi (nI v1) (by rw [nI_clamp (by omega)]; exact ev1) ?_
                        refine lv_imul hx hb dX8_findOrders_163 ?_
                        refine hs_topi (nI (5 * v1)) (pk_mul (5) (v1)) ?_
                        refine lv_aload_n hx hb dX8_findOrders_164 rfl (lv_at hl 3 rfl) ?_
                        refine va_get (D := D) (ci := 7) (v := .ref mo_row) (C := RX8) (T := TX8) (N := 32) hx hb hts hiX8 hown hK hP 0 rfl rfl 18 (Nat.le_of_ble_eq_true rfl) fl26 (fun _ h9 => h9) rfl dX8_findOrders_165 ?_
                        refine lv_iload hx hb dX8_findOrders_168 (lv_at hl 0 rfl) ?_
                        refine va_iald hx hb hK hP 2 0 rfl rfl (vp_in_nI (show k4 < 5 by omega) (by decide)) dX8_findOrders_170 ?_
                        obtain ⟨v2, hv2, ev2⟩ := hw_7 (k4) (by omega)
                        refine hs_topi (nI v2) (by rw [nI_clamp (by omega)]; exact ev2) ?_
                        refine lv_iadd hx hb dX8_findOrders_171 ?_
                        refine hs_topi (nI ((5 * v1) + v2)) (nI_add ((5 * v1)) (v2)) ?_
                        refine lv_dup2_11 hx hb dX8_findOrders_172 rfl rfl ?_
                        refine va_iald hx hb hK hP 3 0 rfl rfl (vp_in_nI (show ((5 * v1) + v2) < 25 by omega) (by decide)) dX8_findOrders_173 ?_
                        refine lv_iconst (v := 1) hx hb dX8_findOrders_174 hki_1 ?_
                        refine lv_iadd hx hb dX8_findOrders_175 ?_
                        refine va_iast hx hb hK hP hD hS 3 0 rfl rfl (vp_in_nI (show ((5 * v1) + v2) < 25 by omega) (by decide)) dX8_findOrders_176 (fun H locs hP hD hS => ?_)
                        have hP : va_P D vwCl [_, _, _, oqI k mo_before 25 (upd bj ((nI ((5 * v1) + v2)).toNatClampNeg) ((bj (nI ((5 * v1) + v2)).toNatClampNeg) + 1))] H := hP
                        have hD : va_D A [_, _, _, oqI k mo_before 25 (upd bj ((nI ((5 * v1) + v2)).toNatClampNeg) ((bj (nI ((5 * v1) + v2)).toNatClampNeg) + 1))] := hD
                        refine lv_iinc (v := nI (k4 + 1)) (lv' := [(4, .int (nI (k4 + 1))), (3, .int (nI i)), (2, .int (nI nb)), (0, .ref mo), (1, .int (nI n))]) hx hb dX8_findOrders_177 hl (k := 0) rfl (nI_add (k4) 1) (Nat.le_of_ble_eq_true rfl) rfl (fun ls hl => ?_)
                        refine lv_goto (tgt := 146) hx hb dX8_findOrders_180 rfl ?_
                        exact ih146 (k4 + 1, upd bj ((nI ((5 * v1) + v2)).toNatClampNeg) ((bj (nI ((5 * v1) + v2)).toNatClampNeg) + 1)) (by (try dsimp only); first | omega | (refine ⟨?_, ?_⟩ <;> first | omega | assumption)) (by (try dsimp only); omega) _ _ _ hP hD hS (lv_sub hl [0, 1, 2, 3, 4] rfl)
                    · (try dsimp only); first | omega | (refine ⟨?_, ?_⟩ <;> first | omega | assumption)
                · (try dsimp only); first | omega | (refine ⟨?_, ?_⟩ <;> first | omega | assumption)
      · (try dsimp only); first | omega | (refine ⟨?_, ?_⟩ <;> first | omega | assumption)
    · have nc_1 : ¬ 25 ≤ kk := fun hq9 => c_1 ((nI_leI (a := 25) (b := kk) (by omega) (by omega)).mpr hq9)
      refine lv_aload_n hx hb dX8_findOrders_28 rfl (lv_at hl 1 rfl) ?_
      refine va_get (D := D) (ci := 7) (v := .ref mo_before) (C := RX8) (T := TX8) (N := 32) hx hb hts hiX8 hown hK hP 0 rfl rfl 23 (Nat.le_of_ble_eq_true rfl) fl29 (fun _ h9 => h9) rfl dX8_findOrders_29 ?_
      refine lv_iload_n hx hb dX8_findOrders_32 rfl (lv_at hl 0 rfl) ?_
      refine lv_iconst (v := 0) hx hb dX8_findOrders_33 hki_0 ?_
      refine va_iast hx hb hK hP hD hS 3 0 rfl rfl (vp_in_nI (show kk < 25 by omega) (by decide)) dX8_findOrders_34 (fun H locs hP hD hS => ?_)
      have hP : va_P D vwCl [oq7 mo mo_st mo_at mo_isKept (nI mo_pe) (nI mo_hm) mo_draft (nI mo_dp) (nI mo_dh) mo_toldLines mo_highest mo_tape (nI mo_tl) (nI mo_ps) (nI mo_fr) mo_sort mo_value (nI mo_ft) mo_wrongAt mo_row 0 0 0 0 mo_before mo_justSum mo_toldSum mo_allWays mo_lanes mo_sizes mo_cells mo_torn mo_had, _, oqI k mo_row 5 (rf), oqI k mo_before 25 (upd bg ((nI kk).toNatClampNeg) 0)] H := hP
      have hD : va_D A [oq7 mo mo_st mo_at mo_isKept (nI mo_pe) (nI mo_hm) mo_draft (nI mo_dp) (nI mo_dh) mo_toldLines mo_highest mo_tape (nI mo_tl) (nI mo_ps) (nI mo_fr) mo_sort mo_value (nI mo_ft) mo_wrongAt mo_row 0 0 0 0 mo_before mo_justSum mo_toldSum mo_allWays mo_lanes mo_sizes mo_cells mo_torn mo_had, _, oqI k mo_row 5 (rf), oqI k mo_before 25 (upd bg ((nI kk).toNatClampNeg) 0)] := hD
      refine lv_iinc (v := nI (kk + 1)) (lv' := [(2, .int (nI (kk + 1))), (0, .ref mo), (1, .int (nI n))]) hx hb dX8_findOrders_35 hl (k := 0) rfl (nI_add (kk) 1) (Nat.le_of_ble_eq_true rfl) rfl (fun ls hl => ?_)
      refine lv_goto (tgt := 22) hx hb dX8_findOrders_38 rfl ?_
      exact ih22 (kk + 1, upd bg ((nI kk).toNatClampNeg) 0) (by (try dsimp only); first | omega | (refine ⟨?_, ?_⟩ <;> first | omega | assumption)) (by (try dsimp only); omega) _ _ _ hP hD hS (lv_sub hl [0, 1, 2] rfl)
  · (try dsimp only); first | omega | (refine ⟨?_, ?_⟩ <;> first | omega | assumption)
