set_option maxHeartbeats 4000000 in
set_option maxRecDepth 100000 in
theorem gf_mayCome (l : Launch) (D : va_G) (k : Nat → ClassId) (sz : Nat) (q : Nat) (q_ahead : Nat) (q_ways : Nat) (q_z : Nat) (h : Nat) (S : Nat) (af : Nat → Int32) (ah : Nat → Nat) (hh : h < 5) (hS5 : S < 32) (hah : ∀ h, h < 5 → (af h = nI (ah h) ∧ ah h < 32)) : MI l yX2_mayCome wsX2_mayCome ({ frames := 0, cells := 0, slots := 0, locals := 0 }) D k [.ref q, .int (nI h), .int (nI S)] [oq1 q q_ahead q_ways (nI q_z), oqI k q_ahead 5 (af)] sz (fun (r : Int32) (u : Unit) => r = hsb (hmc ah h S)) (fun (u : Unit) => [oq1 q q_ahead q_ways (nI q_z), oqI k q_ahead 5 (af)]) := by
  refine Met.ofW (cc := cX2_mayCome) (maxL := 3) (ret := (some .boolean)) hpn_X2 rfl ?_
  intro p e s m args below meth c s₁ B hml hv
  obtain ⟨rfl, hsz, hP, hK, hD0, hN⟩ := hv
  have hx := B.exec
  have hb := B.bytes
  have hr := B.returns
  have hlocks := B.notSynchronized
  have hts := atoms_spec (ws := wsX2_mayCome) B.pre
  have hown := findClass_of_methodNamed B.named
  have hown : s.vm.findClass RX2 = some m.cls := hown
  have hiX2 : ∀ w ∈ u_ws RX2 TX2 3, w ∈ wsX2_mayCome := fun w9 hw9 => List.mem_cons_of_mem _ (igX2 w9 hw9)
  have fl9 := hts (.fieldLink RX2 9 "HalfScales$Ranks" "ahead" "[I") (List.mem_cons_of_mem _ (hs_inG 1 176 rfl rfl))
  subst hsz
  have hD := hD0.self (sz := s.heap.size)
  generalize hAe : va_A [oq1 q q_ahead q_ways (nI q_z), oqI k q_ahead 5 (af)] s.heap.size = A at hD ⊢
  have hA : ∀ q : Nat, s.heap.size ≤ q → A q := fun q h => by rw [← hAe]; exact Or.inr h
  have hS : va_S A s.heap s.heap [] := va_S.rf
  have hl := lv_entry ([.ref q, .int (nI h), .int (nI S)]) (n := 3) (Nat.le_of_ble_eq_true rfl)
  rw [lg_entry_eq]
  generalize (lg_sl ([.ref q, .int (nI h), .int (nI S)]) ++ List.replicate (3 - (lg_sl ([.ref q, .int (nI h), .int (nI S)])).length) Slot.unset).toArray = ls at hl ⊢
  have hl : lv_has ls 3 [(0, .ref q), (1, .int (nI h)), (2, .int (nI S))] := hl
  have hP : va_P D vwCl [oq1 q q_ahead q_ways (nI q_z), oqI k q_ahead 5 (af)] s.heap := hP
  refine lv_aload_n hx hb dX2_mayCome_0 rfl (lv_at hl 0 rfl) ?_
  refine va_get (D := D) (ci := 1) (v := .ref q_ahead) (C := RX2) (T := TX2) (N := 3) hx hb hts hiX2 hown hK hP 0 rfl rfl 0 (Nat.le_of_ble_eq_true rfl) fl9 (fun _ h9 => h9) rfl dX2_mayCome_1 ?_
  refine lv_iload_n hx hb dX2_mayCome_4 rfl (lv_at hl 1 rfl) ?_
  refine va_iald hx hb hK hP 1 0 rfl rfl (vp_in_nI (show h < 5 by omega) (by decide)) dX2_mayCome_5 ?_
  refine hs_topi (nI (ah h)) (by rw [nI_clamp (by omega)]; exact (hah h hh).1) ?_
  refine lv_iload_n hx hb dX2_mayCome_6 rfl (lv_at hl 2 rfl) ?_
  refine lv_iconst (v := (-1)) hx hb dX2_mayCome_7 hki_m1 ?_
  refine lv_ixor hx hb dX2_mayCome_8 ?_
  refine lv_iand hx hb dX2_mayCome_9 ?_
  refine lv_if_ne (tgt := 17) hx hb dX2_mayCome_10 rfl (fun c_1 => ?_) (fun c_1 => ?_)
  · refine lv_iconst (v := 0) hx hb dX2_mayCome_17 hki_0 ?_
    exact hs_zret hx hb hr hlocks hK hP hD hS () [0, 1] rfl (hs_upnd rfl) dX2_mayCome_18 rfl ((by rw [hmc, decide_eq_false (fun z9 => c_1 ((hs_mc5 (ah h) (hah h hh).2 S hS5).mpr z9))]; rfl))
  · refine lv_iconst (v := 1) hx hb dX2_mayCome_13 hki_1 ?_
    refine lv_goto (tgt := 18) hx hb dX2_mayCome_14 rfl ?_
    exact hs_zret hx hb hr hlocks hK hP hD hS () [0, 1] rfl (hs_upnd rfl) dX2_mayCome_18 rfl ((by rw [hmc, decide_eq_true ((hs_mc5 (ah h) (hah h hh).2 S hS5).mp c_1)]; rfl))

set_option maxHeartbeats 4000000 in
set_option maxRecDepth 100000 in
theorem gf_howMany (l : Launch) (D : va_G) (k : Nat → ClassId) (sz : Nat) (q : Nat) (q_ahead : Nat) (q_ways : Nat) (q_z : Nat) (af : Nat → Int32) (wf : Nat → Int32) (ah : Nat → Nat) (hz : q_z ≤ 5) (hah : ∀ h, h < 5 → (af h = nI (ah h) ∧ ah h < 32)) : MI l yX2_howMany wsX2_howMany ({ frames := 1, cells := 0, slots := 0, locals := 22 }) D k [.ref q] [oq1 q q_ahead q_ways (nI q_z), oqI k q_ahead 5 (af), oqI k q_ways 32 (wf)] sz (fun (r : Int32) (u : Nat → Int32) => r = nI (Wm q_z ah q_z (2 ^ q_z - 1))) (fun (u : Nat → Int32) => [oq1 q q_ahead q_ways (nI q_z), oqI k q_ahead 5 (af), oqI k q_ways 32 (u)]) := by
  refine Met.ofW (cc := cX2_howMany) (maxL := 6) (ret := (some .int)) hpn_X2 rfl ?_
  intro p e s m args below meth c s₁ B hml hv
  obtain ⟨rfl, hsz, hP, hK, hD0, hN⟩ := hv
  have hx := B.exec
  have hb := B.bytes
  have hr := B.returns
  have hlocks := B.notSynchronized
  have hts := atoms_spec (ws := wsX2_howMany) B.pre
  have hown := findClass_of_methodNamed B.named
  have hown : s.vm.findClass RX2 = some m.cls := hown
  have hiX2 : ∀ w ∈ u_ws RX2 TX2 3, w ∈ wsX2_howMany := fun w9 hw9 => List.mem_cons_of_mem _ (igX2 w9 hw9)
  have fl24 := hts (.fieldLink RX2 24 "HalfScales$Ranks" "size" "I") (List.mem_cons_of_mem _ (hs_inG 1 178 rfl rfl))
  have fl15 := hts (.fieldLink RX2 15 "HalfScales$Ranks" "ways" "[I") (List.mem_cons_of_mem _ (hs_inG 1 177 rfl rfl))
  have hp1 : 1 ≤ 2 ^ q_z := Nat.one_le_two_pow
  have hp2 : 2 ^ q_z ≤ 32 := Nat.le_trans (Nat.pow_le_pow_right (n := 2) (by decide) hz) (by decide)
  subst hsz
  have hD := hD0.self (sz := s.heap.size)
  generalize hAe : va_A [oq1 q q_ahead q_ways (nI q_z), oqI k q_ahead 5 (af), oqI k q_ways 32 (wf)] s.heap.size = A at hD ⊢
  have hA : ∀ q : Nat, s.heap.size ≤ q → A q := fun q h => by rw [← hAe]; exact Or.inr h
  have hS : va_S A s.heap s.heap [] := va_S.rf
  have hl := lv_entry ([.ref q]) (n := 6) (Nat.le_of_ble_eq_true rfl)
  rw [lg_entry_eq]
  generalize (lg_sl ([.ref q]) ++ List.replicate (6 - (lg_sl ([.ref q])).length) Slot.unset).toArray = ls at hl ⊢
  have hl : lv_has ls 6 [(0, .ref q)] := hl
  have hP : va_P D vwCl [oq1 q q_ahead q_ways (nI q_z), oqI k q_ahead 5 (af), oqI k q_ways 32 (wf)] s.heap := hP
  refine lv_iconst (v := 1) hx hb dX2_howMany_0 hki_1 ?_
  refine lv_aload_n hx hb dX2_howMany_1 rfl (lv_at hl 0 rfl) ?_
  refine va_get (D := D) (ci := 1) (v := .int (nI q_z)) (C := RX2) (T := TX2) (N := 3) hx hb hts hiX2 hown hK hP 0 rfl rfl 2 (Nat.le_of_ble_eq_true rfl) fl24 (fun _ h9 => h9) rfl dX2_howMany_2 ?_
  refine lv_ishl hx hb dX2_howMany_5 ?_
  refine hs_topi (nI (2 ^ q_z)) (hs_shl (by omega)) ?_
  refine lv_iconst (v := 1) hx hb dX2_howMany_6 hki_1 ?_
  refine lv_isub hx hb dX2_howMany_7 ?_
  refine hs_topi (nI ((2 ^ q_z) - 1)) (pk_sub (a := (2 ^ q_z)) (b := 1) (by omega)) ?_
  refine lv_istore_n (lv' := [(1, .int (nI ((2 ^ q_z) - 1))), (0, .ref q)]) hx hb dX2_howMany_8 rfl hl (Nat.le_of_ble_eq_true rfl) rfl (fun ls hl => ?_)
  refine lv_aload_n hx hb dX2_howMany_9 rfl (lv_at hl 1 rfl) ?_
  refine va_get (D := D) (ci := 1) (v := .ref q_ways) (C := RX2) (T := TX2) (N := 3) hx hb hts hiX2 hown hK hP 0 rfl rfl 1 (Nat.le_of_ble_eq_true rfl) fl15 (fun _ h9 => h9) rfl dX2_howMany_10 ?_
  refine lv_iconst (v := 0) hx hb dX2_howMany_13 hki_0 ?_
  refine lv_iconst (v := 1) hx hb dX2_howMany_14 hki_1 ?_
  refine va_iast hx hb hK hP hD hS 2 0 rfl rfl (hs_in (by decide)) dX2_howMany_15 (fun H locs hP hD hS => ?_)
  have hP : va_P D vwCl [oq1 q q_ahead q_ways (nI q_z), oqI k q_ahead 5 (af), oqI k q_ways 32 (upd wf 0 1)] H := hP
  have hD : va_D A [oq1 q q_ahead q_ways (nI q_z), oqI k q_ahead 5 (af), oqI k q_ways 32 (upd wf 0 1)] := hD
  refine lv_iconst (v := 1) hx hb dX2_howMany_16 hki_1 ?_
  refine lv_istore_n (lv' := [(2, .int 1), (1, .int (nI ((2 ^ q_z) - 1))), (0, .ref q)]) hx hb dX2_howMany_17 rfl hl (Nat.le_of_ble_eq_true rfl) rfl (fun ls hl => ?_)
  refine hs_while (σ := Nat × (Nat → Int32)) (fun x => 1 ≤ x.1 ∧ x.1 ≤ 2 ^ q_z ∧ ∀ S, S < x.1 → x.2 S = nI (Wm q_z ah (hpop S) S)) (fun x => 2 ^ q_z - x.1) (fun x => [oq1 q q_ahead q_ways (nI q_z), oqI k q_ahead 5 (af), oqI k q_ways 32 ((x.2))]) (fun x => [(2, .int (nI (x.1))), (1, .int (nI ((2 ^ q_z) - 1))), (0, .ref q)]) ?_ (1, upd wf 0 1) ?_ hP hD hS hl
  · intro x hI ih18 H locs ls hP hD hS hl
    obtain ⟨pl, wf2⟩ := x
    try dsimp only at hI
    have hP : va_P D vwCl [_, _, oqI k q_ways 32 (wf2)] H := hP
    have hD : va_D A [_, _, oqI k q_ways 32 (wf2)] := hD
    have hl : lv_has ls 6 [(2, .int (nI pl)), (1, .int (nI ((2 ^ q_z) - 1))), (0, .ref q)] := hl
    refine lv_iload_n hx hb dX2_howMany_18 rfl (lv_at hl 0 rfl) ?_
    refine lv_iload_n hx hb dX2_howMany_19 rfl (lv_at hl 1 rfl) ?_
    refine lv_icmp_gt (tgt := 93) hx hb dX2_howMany_20 rfl (fun c_1 => ?_) (fun c_1 => ?_)
    · have nc_1 : ((2 ^ q_z) - 1) < pl := (nI_ltI (a := ((2 ^ q_z) - 1)) (b := pl) (by omega) (by omega)).mp c_1
      refine lv_aload_n hx hb dX2_howMany_93 rfl (lv_at hl 2 rfl) ?_
      refine va_get (D := D) (ci := 1) (v := .ref q_ways) (C := RX2) (T := TX2) (N := 3) hx hb hts hiX2 hown hK hP 0 rfl rfl 1 (Nat.le_of_ble_eq_true rfl) fl15 (fun _ h9 => h9) rfl dX2_howMany_94 ?_
      refine lv_iload_n hx hb dX2_howMany_97 rfl (lv_at hl 1 rfl) ?_
      refine va_iald hx hb hK hP 2 0 rfl rfl (vp_in_nI (show ((2 ^ q_z) - 1) < 32 by omega) (by decide)) dX2_howMany_98 ?_
      refine hs_topi (nI (Wm q_z ah q_z (2 ^ q_z - 1))) (by rw [nI_clamp (by omega), hI.2.2 _ (by omega), hpop_full q_z (by omega)]) ?_
      exact hs_iret hx hb hr hlocks hK hP hD hS wf2 [0, 1, 2] rfl (hs_upnd rfl) dX2_howMany_99 (rfl)
    · have nc_1 : ¬ ((2 ^ q_z) - 1) < pl := fun hq9 => c_1 ((nI_ltI (a := ((2 ^ q_z) - 1)) (b := pl) (by omega) (by omega)).mpr hq9)
      have hIo := hI
      refine lv_iconst (v := 0) hx hb dX2_howMany_23 hki_0 ?_
      refine lv_istore_n (lv' := [(3, .int 0), (2, .int (nI pl)), (1, .int (nI ((2 ^ q_z) - 1))), (0, .ref q)]) hx hb dX2_howMany_24 rfl hl (Nat.le_of_ble_eq_true rfl) rfl (fun ls hl => ?_)
      refine lv_iconst (v := 0) hx hb dX2_howMany_25 hki_0 ?_
      refine lv_istore (lv' := [(4, .int 0), (3, .int 0), (2, .int (nI pl)), (1, .int (nI ((2 ^ q_z) - 1))), (0, .ref q)]) hx hb dX2_howMany_26 hl (Nat.le_of_ble_eq_true rfl) rfl (fun ls hl => ?_)
      refine hs_while (σ := Int32 × Nat) (fun x => x.2 ≤ q_z ∧ x.1 = nI (hsum (fun g => if pl.testBit g = true ∧ hmc ah g (pl - 2 ^ g) = true then Wm q_z ah (hpop pl - 1) (pl - 2 ^ g) else 0) x.2)) (fun x => q_z - x.2) (fun x => [oq1 q q_ahead q_ways (nI q_z), oqI k q_ahead 5 (af), oqI k q_ways 32 (wf2)]) (fun x => [(4, .int (nI (x.2))), (3, .int (x.1)), (2, .int (nI pl)), (1, .int (nI ((2 ^ q_z) - 1))), (0, .ref q)]) ?_ (0, 0) ?_ hP hD hS hl
      · intro x hI ih28 H locs ls hP hD hS hl
        obtain ⟨sum, h⟩ := x
        try dsimp only at hI
        have hP : va_P D vwCl [_, _, _] H := hP
        have hD : va_D A [_, _, _] := hD
        have hl : lv_has ls 6 [(4, .int (nI h)), (3, .int sum), (2, .int (nI pl)), (1, .int (nI ((2 ^ q_z) - 1))), (0, .ref q)] := hl
        refine lv_iload hx hb dX2_howMany_28 (lv_at hl 0 rfl) ?_
        refine lv_aload_n hx hb dX2_howMany_30 rfl (lv_at hl 4 rfl) ?_
        refine va_get (D := D) (ci := 1) (v := .int (nI q_z)) (C := RX2) (T := TX2) (N := 3) hx hb hts hiX2 hown hK hP 0 rfl rfl 2 (Nat.le_of_ble_eq_true rfl) fl24 (fun _ h9 => h9) rfl dX2_howMany_31 ?_
        refine lv_icmp_ge (tgt := 80) hx hb dX2_howMany_34 rfl (fun c_2 => ?_) (fun c_2 => ?_)
        · have nc_2 : q_z ≤ h := (nI_leI (a := q_z) (b := h) (by omega) (by omega)).mp c_2
          refine lv_aload_n hx hb dX2_howMany_80 rfl (lv_at hl 4 rfl) ?_
          refine va_get (D := D) (ci := 1) (v := .ref q_ways) (C := RX2) (T := TX2) (N := 3) hx hb hts hiX2 hown hK hP 0 rfl rfl 1 (Nat.le_of_ble_eq_true rfl) fl15 (fun _ h9 => h9) rfl dX2_howMany_81 ?_
          refine lv_iload_n hx hb dX2_howMany_84 rfl (lv_at hl 2 rfl) ?_
          refine lv_iload_n hx hb dX2_howMany_85 rfl (lv_at hl 1 rfl) ?_
          refine va_iast hx hb hK hP hD hS 2 0 rfl rfl (vp_in_nI (show pl < 32 by omega) (by decide)) dX2_howMany_86 (fun H locs hP hD hS => ?_)
          have hP : va_P D vwCl [_, _, oqI k q_ways 32 (upd wf2 ((nI pl).toNatClampNeg) sum)] H := hP
          have hD : va_D A [_, _, oqI k q_ways 32 (upd wf2 ((nI pl).toNatClampNeg) sum)] := hD
          refine lv_iinc (v := nI (pl + 1)) (lv' := [(2, .int (nI (pl + 1))), (4, .int (nI h)), (3, .int sum), (1, .int (nI ((2 ^ q_z) - 1))), (0, .ref q)]) hx hb dX2_howMany_87 hl (k := 2) rfl (nI_add (pl) 1) (Nat.le_of_ble_eq_true rfl) rfl (fun ls hl => ?_)
          refine lv_goto (tgt := 18) hx hb dX2_howMany_90 rfl ?_
          exact ih18 (pl + 1, upd wf2 ((nI pl).toNatClampNeg) sum) (by (try dsimp only); exact ⟨by omega, by omega, fun S hS => if e9 : S = pl then (by subst e9; rw [hs_ue (by omega) rfl, Wm_pos (by omega) (by omega), hI.2, show h = q_z by omega]) else (by rw [hs_uc (by omega) e9]; exact hIo.2.2 S (by omega))⟩) (by (try dsimp only); omega) _ _ _ hP hD hS (lv_sub hl [0, 3, 4] rfl)
        · have nc_2 : ¬ q_z ≤ h := fun hq9 => c_2 ((nI_leI (a := q_z) (b := h) (by omega) (by omega)).mpr hq9)
          cases hbt : pl.testBit h
          · refine lv_iload_n hx hb dX2_howMany_37 rfl (lv_at hl 2 rfl) ?_
            refine lv_iconst (v := 1) hx hb dX2_howMany_38 hki_1 ?_
            refine lv_iload hx hb dX2_howMany_39 (lv_at hl 0 rfl) ?_
            refine lv_ishl hx hb dX2_howMany_41 ?_
            refine lv_iconst (v := (-1)) hx hb dX2_howMany_42 hki_m1 ?_
            refine lv_ixor hx hb dX2_howMany_43 ?_
            refine lv_iand hx hb dX2_howMany_44 ?_
            refine hs_topi (nI pl) (by rw [hs_rm pl (by omega) h (by omega), if_neg (by rw [hbt]; decide)]) ?_
            refine lv_istore (lv' := [(5, .int (nI pl)), (4, .int (nI h)), (3, .int sum), (2, .int (nI pl)), (1, .int (nI ((2 ^ q_z) - 1))), (0, .ref q)]) hx hb dX2_howMany_45 hl (Nat.le_of_ble_eq_true rfl) rfl (fun ls hl => ?_)
            refine lv_iload hx hb dX2_howMany_47 (lv_at hl 0 rfl) ?_
            refine lv_iload_n hx hb dX2_howMany_49 rfl (lv_at hl 3 rfl) ?_
            refine lv_icmp_eq (tgt := 74) hx hb dX2_howMany_50 rfl (fun c_3 => ?_) (fun c_3 => absurd rfl c_3)
            refine lv_iinc (v := nI (h + 1)) (lv' := [(4, .int (nI (h + 1))), (5, .int (nI pl)), (3, .int sum), (2, .int (nI pl)), (1, .int (nI ((2 ^ q_z) - 1))), (0, .ref q)]) hx hb dX2_howMany_74 hl (k := 1) rfl (nI_add (h) 1) (Nat.le_of_ble_eq_true rfl) rfl (fun ls hl => ?_)
            refine lv_goto (tgt := 28) hx hb dX2_howMany_77 rfl ?_
            exact ih28 (sum, h + 1) (by (try dsimp only); exact ⟨by omega, by rw [hsum, if_neg (fun z9 => absurd z9.1 (by rw [hbt]; decide))]; exact hI.2⟩) (by (try dsimp only); omega) _ _ _ hP hD hS (lv_sub hl [0, 2, 3, 4, 5] rfl)
          · refine lv_iload_n hx hb dX2_howMany_37 rfl (lv_at hl 2 rfl) ?_
            refine lv_iconst (v := 1) hx hb dX2_howMany_38 hki_1 ?_
            refine lv_iload hx hb dX2_howMany_39 (lv_at hl 0 rfl) ?_
            refine lv_ishl hx hb dX2_howMany_41 ?_
            refine lv_iconst (v := (-1)) hx hb dX2_howMany_42 hki_m1 ?_
            refine lv_ixor hx hb dX2_howMany_43 ?_
            refine lv_iand hx hb dX2_howMany_44 ?_
            refine hs_topi (nI (pl - 2 ^ h)) (by rw [hs_rm pl (by omega) h (by omega), if_pos hbt]) ?_
            refine lv_istore (lv' := [(5, .int (nI (pl - 2 ^ h))), (4, .int (nI h)), (3, .int sum), (2, .int (nI pl)), (1, .int (nI ((2 ^ q_z) - 1))), (0, .ref q)]) hx hb dX2_howMany_45 hl (Nat.le_of_ble_eq_true rfl) rfl (fun ls hl => ?_)
            refine lv_iload hx hb dX2_howMany_47 (lv_at hl 0 rfl) ?_
            have hrm0 := hpop_rm pl (by omega) h (by omega) hbt
            refine lv_iload_n hx hb dX2_howMany_49 rfl (lv_at hl 3 rfl) ?_
            refine lv_icmp_eq (tgt := 74) hx hb dX2_howMany_50 rfl (fun c_4 => absurd ((nI_eq (a := (pl - 2 ^ h)) (b := pl) (by omega) (by omega)).mp c_4) (by omega)) (fun c_4 => ?_)
            have hrm := hpop_rm pl (by omega) h (by omega) hbt
            refine lv_aload_n hx hb dX2_howMany_53 rfl (lv_at hl 5 rfl) ?_
            refine lv_iload hx hb dX2_howMany_54 (lv_at hl 1 rfl) ?_
            refine lv_iload hx hb dX2_howMany_56 (lv_at hl 0 rfl) ?_
            refine hs_ciM (va_runV (As := [.int (nI h), .int (nI (pl - 2 ^ h))]) (rest := []) ⟨hx, hb, hml, hown, hts⟩ (gf_mayCome l D k _ q q_ahead q_ways q_z h (pl - 2 ^ h) af ah (by omega) (by omega) hah) (cwV 2 hts gX2_howMany_X2_mayCome rfl rfl rfl ⟨rfl, hq_X2_mayCome⟩ ⟨Nat.le_of_ble_eq_true rfl, Nat.le_of_ble_eq_true rfl⟩) (hs_preV hK hN (hs_subP (w := [_, _]) hP [0, 1] rfl) (hD.sub (ws' := [_, _]) [0, 1] (hs_upnd rfl) rfl) (ci := 1) (q0 := 0) rfl rfl) rfl rfl hl.1 rfl (lv_room (Nat.le_of_ble_eq_true rfl)) dX2_howMany_58 ⟨Nat.le_of_ble_eq_true rfl, Nat.le_of_ble_eq_true rfl⟩) hP hD hS hA [false, false, true] [_] [_, _] rfl [0, 1] rfl [0, 1] (fun u_7 => [_, _]) (fun _ => rfl) (hs_upnd rfl) [false, false, true] (fun u_7 => [_, _, _]) (fun _ => rfl) (fun r_5 u_7 H locs hw_6 hP hD hS => ?_)
            refine hs_topi (hsb (hmc ah h (pl - 2 ^ h))) hw_6 ?_
            refine lv_if_eq (tgt := 74) hx hb dX2_howMany_61 rfl (fun c_8 => ?_) (fun c_8 => ?_)
            · refine lv_iinc (v := nI (h + 1)) (lv' := [(4, .int (nI (h + 1))), (5, .int (nI (pl - 2 ^ h))), (3, .int sum), (2, .int (nI pl)), (1, .int (nI ((2 ^ q_z) - 1))), (0, .ref q)]) hx hb dX2_howMany_74 hl (k := 1) rfl (nI_add (h) 1) (Nat.le_of_ble_eq_true rfl) rfl (fun ls hl => ?_)
              refine lv_goto (tgt := 28) hx hb dX2_howMany_77 rfl ?_
              exact ih28 (sum, h + 1) (by (try dsimp only); exact ⟨by omega, by rw [hsum, if_neg (fun z9 => absurd z9.2 (by rw [hs_n0 c_8]; decide))]; exact hI.2⟩) (by (try dsimp only); omega) _ _ _ hP hD hS (lv_sub hl [0, 2, 3, 4, 5] rfl)
            · refine lv_iload_n hx hb dX2_howMany_64 rfl (lv_at hl 2 rfl) ?_
              refine lv_aload_n hx hb dX2_howMany_65 rfl (lv_at hl 5 rfl) ?_
              refine va_get (D := D) (ci := 1) (v := .ref q_ways) (C := RX2) (T := TX2) (N := 3) hx hb hts hiX2 hown hK hP 0 rfl rfl 1 (Nat.le_of_ble_eq_true rfl) fl15 (fun _ h9 => h9) rfl dX2_howMany_66 ?_
              refine lv_iload hx hb dX2_howMany_69 (lv_at hl 0 rfl) ?_
              refine va_iald hx hb hK hP 2 0 rfl rfl (vp_in_nI (show (pl - 2 ^ h) < 32 by omega) (by decide)) dX2_howMany_71 ?_
              refine hs_topi (nI (Wm q_z ah (hpop (pl - 2 ^ h)) (pl - 2 ^ h))) (by rw [nI_clamp (by omega)]; exact hIo.2.2 _ (by omega)) ?_
              refine lv_iadd hx hb dX2_howMany_72 ?_
              refine lv_istore_n (lv' := [(3, .int (sum + (nI (Wm q_z ah (hpop (pl - 2 ^ h)) (pl - 2 ^ h))))), (5, .int (nI (pl - 2 ^ h))), (4, .int (nI h)), (2, .int (nI pl)), (1, .int (nI ((2 ^ q_z) - 1))), (0, .ref q)]) hx hb dX2_howMany_73 rfl hl (Nat.le_of_ble_eq_true rfl) rfl (fun ls hl => ?_)
              refine lv_iinc (v := nI (h + 1)) (lv' := [(4, .int (nI (h + 1))), (3, .int (sum + (nI (Wm q_z ah (hpop (pl - 2 ^ h)) (pl - 2 ^ h))))), (5, .int (nI (pl - 2 ^ h))), (2, .int (nI pl)), (1, .int (nI ((2 ^ q_z) - 1))), (0, .ref q)]) hx hb dX2_howMany_74 hl (k := 2) rfl (nI_add (h) 1) (Nat.le_of_ble_eq_true rfl) rfl (fun ls hl => ?_)
              refine lv_goto (tgt := 28) hx hb dX2_howMany_77 rfl ?_
              exact ih28 (sum + (nI (Wm q_z ah (hpop (pl - 2 ^ h)) (pl - 2 ^ h))), h + 1) (by (try dsimp only); exact ⟨by omega, by rw [hsum, if_pos ⟨hbt, hs_nb c_8⟩, ← nI_add, ← hI.2, show hpop pl - 1 = hpop (pl - 2 ^ h) by omega]⟩) (by (try dsimp only); omega) _ _ _ hP hD hS (lv_sub hl [0, 1, 3, 4, 5] rfl)
      · (try dsimp only); exact ⟨Nat.zero_le _, rfl⟩
  · (try dsimp only); exact ⟨Nat.le_refl _, by omega, fun S hS => by rw [show S = 0 by omega]; exact hs_uq rfl⟩

set_option maxHeartbeats 4000000 in
set_option maxRecDepth 100000 in
theorem gf_learn (l : Launch) (D : va_G) (k : Nat → ClassId) (sz : Nat) (q : Nat) (q_ahead : Nat) (q_ways : Nat) (q_z : Nat) (t : Nat) (t_a : Nat → Nat) (t_N : Nat → Nat) (t_J : Nat → Int32) (t_F : Nat → Nat → Int32) (af : Nat → Int32) (lt : Nat → Nat) (hv : Nat → Nat) (hN0 : thN t_N) (hpr : hPr t_F (t_N 3) lt hv) : MV l yX2_learn wsX2_learn ({ frames := 0, cells := 0, slots := 0, locals := 0 }) D k [.ref q, .ref t] [oq1 q q_ahead q_ways (nI q_z), oqI k q_ahead 5 (af), oqT t t_a t_N t_J, oqF0 k t_a t_F, oqF1 k t_a t_F, oqF2 k t_a t_F, oqF3 k t_a t_F, oqF4 k t_a t_F, oqF5 k t_a t_F, oqF6 k t_a t_F] sz (fun (u : Nat → Int32) => ∀ h, h < 5 → (u h = nI (hAh lt hv (t_N 3) h) ∧ hAh lt hv (t_N 3) h < 32)) (fun (u : Nat → Int32) => [oq1 q q_ahead q_ways (nI (t_N 2)), oqI k q_ahead 5 (u), oqT t t_a t_N t_J, oqF0 k t_a t_F, oqF1 k t_a t_F, oqF2 k t_a t_F, oqF3 k t_a t_F, oqF4 k t_a t_F, oqF5 k t_a t_F, oqF6 k t_a t_F]) := by
  refine Met.ofW (cc := cX2_learn) (maxL := 3) (ret := none) hpn_X2 rfl ?_
  intro p e s m args below meth c s₁ B hml hv
  obtain ⟨rfl, hsz, hP, hK, hD0, hN⟩ := hv
  have hx := B.exec
  have hb := B.bytes
  have hr := B.returns
  have hlocks := B.notSynchronized
  have hts := atoms_spec (ws := wsX2_learn) B.pre
  have hown := findClass_of_methodNamed B.named
  have hown : s.vm.findClass RX2 = some m.cls := hown
  have hiX2 : ∀ w ∈ u_ws RX2 TX2 3, w ∈ wsX2_learn := fun w9 hw9 => List.mem_cons_of_mem _ (igX2 w9 hw9)
  have hiX6 : ∀ w ∈ u_ws RX6 TX6 15, w ∈ wsX2_learn := fun w9 hw9 => List.mem_cons_of_mem _ (igX6 w9 hw9)
  have fl18 := hts (.fieldLink RX2 18 "HalfScales$Thing" "halfCount" "I") (List.mem_cons_of_mem _ (hs_inG 1 68 rfl rfl))
  have fl24 := hts (.fieldLink RX2 24 "HalfScales$Ranks" "size" "I") (List.mem_cons_of_mem _ (hs_inG 1 178 rfl rfl))
  have fl27 := hts (.fieldLink RX2 27 "HalfScales$Thing" "pairCount" "I") (List.mem_cons_of_mem _ (hs_inG 1 72 rfl rfl))
  have fl9 := hts (.fieldLink RX2 9 "HalfScales$Ranks" "ahead" "[I") (List.mem_cons_of_mem _ (hs_inG 1 176 rfl rfl))
  have fl30 := hts (.fieldLink RX2 30 "HalfScales$Thing" "heavy" "[I") (List.mem_cons_of_mem _ (hs_inG 1 45 rfl rfl))
  have fl33 := hts (.fieldLink RX2 33 "HalfScales$Thing" "light" "[I") (List.mem_cons_of_mem _ (hs_inG 1 41 rfl rfl))
  obtain ⟨I0, I1, ⟨I2, I2b⟩, I3, I4⟩ := hN0
  subst hsz
  have hD := hD0.self (sz := s.heap.size)
  generalize hAe : va_A [oq1 q q_ahead q_ways (nI q_z), oqI k q_ahead 5 (af), oqT t t_a t_N t_J, oqF0 k t_a t_F, oqF1 k t_a t_F, oqF2 k t_a t_F, oqF3 k t_a t_F, oqF4 k t_a t_F, oqF5 k t_a t_F, oqF6 k t_a t_F] s.heap.size = A at hD ⊢
  have hA : ∀ q : Nat, s.heap.size ≤ q → A q := fun q h => by rw [← hAe]; exact Or.inr h
  have hS : va_S A s.heap s.heap [] := va_S.rf
  have hl := lv_entry ([.ref q, .ref t]) (n := 3) (Nat.le_of_ble_eq_true rfl)
  rw [lg_entry_eq]
  generalize (lg_sl ([.ref q, .ref t]) ++ List.replicate (3 - (lg_sl ([.ref q, .ref t])).length) Slot.unset).toArray = ls at hl ⊢
  have hl : lv_has ls 3 [(0, .ref q), (1, .ref t)] := hl
  have hP : va_P D vwCl [oq1 q q_ahead q_ways (nI q_z), oqI k q_ahead 5 (af), oqT t t_a t_N t_J, oqF0 k t_a t_F, oqF1 k t_a t_F, oqF2 k t_a t_F, oqF3 k t_a t_F, oqF4 k t_a t_F, oqF5 k t_a t_F, oqF6 k t_a t_F] s.heap := hP
  refine lv_aload_n hx hb dX2_learn_0 rfl (lv_at hl 0 rfl) ?_
  refine lv_aload_n hx hb dX2_learn_1 rfl (lv_at hl 1 rfl) ?_
  refine va_get (D := D) (ci := 5) (v := .int (nI (t_N 2))) (C := RX6) (T := TX6) (N := 15) hx hb hts hiX6 hown hK hP 2 rfl rfl 12 (Nat.le_of_ble_eq_true rfl) fl18 (fun _ h9 => h9) rfl dX2_learn_2 ?_
  refine va_put (D := D) (ci := 1) (v := .int (nI (t_N 2))) (ty := .int) (C := RX2) (T := TX2) (N := 3) hx hb hts hiX2 tyX2 tyX2_ok nmX2 hown hK hP hD hS 0 rfl rfl 2 (Nat.le_of_ble_eq_true rfl) fl24 (fun _ h9 => h9) rfl (by decide +kernel) rfl rfl (Nat.le_of_ble_eq_true rfl) dX2_learn_5 (fun H locs hP hD hS => ?_)
  have hP : va_P D vwCl [oq1 q q_ahead q_ways (nI (t_N 2)), oqI k q_ahead 5 (af), oqT t t_a t_N t_J, oqF0 k t_a t_F, oqF1 k t_a t_F, oqF2 k t_a t_F, oqF3 k t_a t_F, oqF4 k t_a t_F, oqF5 k t_a t_F, oqF6 k t_a t_F] H := hP
  have hD : va_D A [oq1 q q_ahead q_ways (nI (t_N 2)), oqI k q_ahead 5 (af), oqT t t_a t_N t_J, oqF0 k t_a t_F, oqF1 k t_a t_F, oqF2 k t_a t_F, oqF3 k t_a t_F, oqF4 k t_a t_F, oqF5 k t_a t_F, oqF6 k t_a t_F] := hD
  refine lv_iconst (v := 0) hx hb dX2_learn_8 hki_0 ?_
  refine lv_istore_n (lv' := [(2, .int 0), (0, .ref q), (1, .ref t)]) hx hb dX2_learn_9 rfl hl (Nat.le_of_ble_eq_true rfl) rfl (fun ls hl => ?_)
  refine hs_while (σ := Nat × (Nat → Int32)) (fun x => x.1 ≤ 5 ∧ ∀ j, j < x.1 → x.2 j = 0) (fun x => 5 - x.1) (fun x => [oq1 q q_ahead q_ways (nI (t_N 2)), oqI k q_ahead 5 ((x.2)), oqT t t_a t_N t_J, oqF0 k t_a t_F, oqF1 k t_a t_F, oqF2 k t_a t_F, oqF3 k t_a t_F, oqF4 k t_a t_F, oqF5 k t_a t_F, oqF6 k t_a t_F]) (fun x => [(2, .int (nI (x.1))), (0, .ref q), (1, .ref t)]) ?_ (0, af) ?_ hP hD hS hl
  · intro x hI ih10 H locs ls hP hD hS hl
    obtain ⟨h, af2⟩ := x
    try dsimp only at hI
    have hP : va_P D vwCl [_, oqI k q_ahead 5 (af2), _, _, _, _, _, _, _, _] H := hP
    have hD : va_D A [_, oqI k q_ahead 5 (af2), _, _, _, _, _, _, _, _] := hD
    have hl : lv_has ls 3 [(2, .int (nI h)), (0, .ref q), (1, .ref t)] := hl
    refine lv_iload_n hx hb dX2_learn_10 rfl (lv_at hl 0 rfl) ?_
    refine lv_iconst (v := 5) hx hb dX2_learn_11 hki_5 ?_
    refine lv_icmp_ge (tgt := 28) hx hb dX2_learn_12 rfl (fun c_1 => ?_) (fun c_1 => ?_)
    · have nc_1 : 5 ≤ h := (nI_leI (a := 5) (b := h) (by omega) (by omega)).mp c_1
      refine lv_iconst (v := 0) hx hb dX2_learn_28 hki_0 ?_
      refine lv_istore_n (lv' := [(2, .int 0), (0, .ref q), (1, .ref t)]) hx hb dX2_learn_29 rfl hl (Nat.le_of_ble_eq_true rfl) rfl (fun ls hl => ?_)
      refine hs_while (σ := Nat × (Nat → Int32)) (fun x => x.1 ≤ t_N 3 ∧ ∀ h, h < 5 → x.2 h = nI (hAh lt hv x.1 h)) (fun x => t_N 3 - x.1) (fun x => [oq1 q q_ahead q_ways (nI (t_N 2)), oqI k q_ahead 5 ((x.2)), oqT t t_a t_N t_J, oqF0 k t_a t_F, oqF1 k t_a t_F, oqF2 k t_a t_F, oqF3 k t_a t_F, oqF4 k t_a t_F, oqF5 k t_a t_F, oqF6 k t_a t_F]) (fun x => [(2, .int (nI (x.1))), (0, .ref q), (1, .ref t)]) ?_ (0, af2) ?_ hP hD hS hl
      · intro x hI ih30 H locs ls hP hD hS hl
        obtain ⟨i, af3⟩ := x
        try dsimp only at hI
        have hP : va_P D vwCl [_, oqI k q_ahead 5 (af3), _, _, _, _, _, _, _, _] H := hP
        have hD : va_D A [_, oqI k q_ahead 5 (af3), _, _, _, _, _, _, _, _] := hD
        have hl : lv_has ls 3 [(2, .int (nI i)), (0, .ref q), (1, .ref t)] := hl
        refine lv_iload_n hx hb dX2_learn_30 rfl (lv_at hl 0 rfl) ?_
        refine lv_aload_n hx hb dX2_learn_31 rfl (lv_at hl 2 rfl) ?_
        refine va_get (D := D) (ci := 5) (v := .int (nI (t_N 3))) (C := RX6) (T := TX6) (N := 15) hx hb hts hiX6 hown hK hP 2 rfl rfl 13 (Nat.le_of_ble_eq_true rfl) fl27 (fun _ h9 => h9) rfl dX2_learn_32 ?_
        refine lv_icmp_ge (tgt := 66) hx hb dX2_learn_35 rfl (fun c_2 => ?_) (fun c_2 => ?_)
        · have nc_2 : (t_N 3) ≤ i := (nI_leI (a := (t_N 3)) (b := i) (by omega) (by omega)).mp c_2
          exact hs_vret hx hb hr hlocks hK hP hD hS af3 [0, 1, 2, 3, 4, 5, 6, 7, 8, 9] rfl (hs_upnd rfl) dX2_learn_66 (fun h hh => ⟨by have e9 : i = t_N 3 := (by omega); (try dsimp only); rw [← e9]; exact hI.2 h hh, hAh_lt _ h (fun j hj => (hpr j hj).1)⟩)
        · have nc_2 : ¬ (t_N 3) ≤ i := fun hq9 => c_2 ((nI_leI (a := (t_N 3)) (b := i) (by omega) (by omega)).mpr hq9)
          refine lv_aload_n hx hb dX2_learn_38 rfl (lv_at hl 1 rfl) ?_
          refine va_get (D := D) (ci := 1) (v := .ref q_ahead) (C := RX2) (T := TX2) (N := 3) hx hb hts hiX2 hown hK hP 0 rfl rfl 0 (Nat.le_of_ble_eq_true rfl) fl9 (fun _ h9 => h9) rfl dX2_learn_39 ?_
          refine lv_aload_n hx hb dX2_learn_42 rfl (lv_at hl 2 rfl) ?_
          refine va_get (D := D) (ci := 5) (v := .ref (t_a 3)) (C := RX6) (T := TX6) (N := 15) hx hb hts hiX6 hown hK hP 2 rfl rfl 3 (Nat.le_of_ble_eq_true rfl) fl30 (fun _ h9 => h9) rfl dX2_learn_43 ?_
          refine lv_iload_n hx hb dX2_learn_46 rfl (lv_at hl 0 rfl) ?_
          refine va_iald hx hb hK hP 6 0 rfl rfl (vp_in_nI (show i < 8 by omega) (by decide)) dX2_learn_47 ?_
          have hlv := hpr i (by omega)
          refine hs_topi (nI (hv i)) (by rw [nI_clamp (by omega)]; exact (hpr i (by omega)).2.2.2) ?_
          refine lv_dup2_11 hx hb dX2_learn_48 rfl rfl ?_
          refine va_iald hx hb hK hP 1 0 rfl rfl (vp_in_nI (show (hv i) < 5 by omega) (by decide)) dX2_learn_49 ?_
          refine hs_topi (nI (hAh lt hv i (hv i))) (by rw [nI_clamp (by omega)]; exact hI.2 (hv i) (by omega)) ?_
          refine lv_iconst (v := 1) hx hb dX2_learn_50 hki_1 ?_
          refine lv_aload_n hx hb dX2_learn_51 rfl (lv_at hl 2 rfl) ?_
          refine va_get (D := D) (ci := 5) (v := .ref (t_a 2)) (C := RX6) (T := TX6) (N := 15) hx hb hts hiX6 hown hK hP 2 rfl rfl 2 (Nat.le_of_ble_eq_true rfl) fl33 (fun _ h9 => h9) rfl dX2_learn_52 ?_
          refine lv_iload_n hx hb dX2_learn_55 rfl (lv_at hl 0 rfl) ?_
          refine va_iald hx hb hK hP 5 0 rfl rfl (vp_in_nI (show i < 8 by omega) (by decide)) dX2_learn_56 ?_
          refine hs_topi (nI (lt i)) (by rw [nI_clamp (by omega)]; exact (hpr i (by omega)).2.2.1) ?_
          refine lv_ishl hx hb dX2_learn_57 ?_
          refine lv_ior hx hb dX2_learn_58 ?_
          refine hs_topi (nI (hAh lt hv i (hv i) ||| 2 ^ lt i)) (hs_or5 _ (hAh_lt i (hv i) (fun j hj => (hpr j (by omega)).1)) (lt i) hlv.1) ?_
          refine va_iast hx hb hK hP hD hS 1 0 rfl rfl (vp_in_nI (show (hv i) < 5 by omega) (by decide)) dX2_learn_59 (fun H locs hP hD hS => ?_)
          have hP : va_P D vwCl [_, oqI k q_ahead 5 (upd af3 ((nI (hv i)).toNatClampNeg) (nI (hAh lt hv i (hv i) ||| 2 ^ lt i))), _, _, _, _, _, _, _, _] H := hP
          have hD : va_D A [_, oqI k q_ahead 5 (upd af3 ((nI (hv i)).toNatClampNeg) (nI (hAh lt hv i (hv i) ||| 2 ^ lt i))), _, _, _, _, _, _, _, _] := hD
          refine lv_iinc (v := nI (i + 1)) (lv' := [(2, .int (nI (i + 1))), (0, .ref q), (1, .ref t)]) hx hb dX2_learn_60 hl (k := 0) rfl (nI_add (i) 1) (Nat.le_of_ble_eq_true rfl) rfl (fun ls hl => ?_)
          refine lv_goto (tgt := 30) hx hb dX2_learn_63 rfl ?_
          exact ih30 (i + 1, upd af3 ((nI (hv i)).toNatClampNeg) (nI (hAh lt hv i (hv i) ||| 2 ^ lt i))) (by (try dsimp only); exact ⟨by omega, fun h hh => if e9 : h = hv i then (by subst e9; rw [hs_ue (by omega) rfl, hAh, if_pos rfl]) else (by rw [hs_uc (by omega) e9, hAh, if_neg (fun z9 => e9 z9.symm)]; exact hI.2 h hh)⟩) (by (try dsimp only); omega) _ _ _ hP hD hS (lv_sub hl [0, 1, 2] rfl)
      · (try dsimp only); exact ⟨Nat.zero_le _, fun h hh => hI.2 h (by omega)⟩
    · have nc_1 : ¬ 5 ≤ h := fun hq9 => c_1 ((nI_leI (a := 5) (b := h) (by omega) (by omega)).mpr hq9)
      refine lv_aload_n hx hb dX2_learn_15 rfl (lv_at hl 1 rfl) ?_
      refine va_get (D := D) (ci := 1) (v := .ref q_ahead) (C := RX2) (T := TX2) (N := 3) hx hb hts hiX2 hown hK hP 0 rfl rfl 0 (Nat.le_of_ble_eq_true rfl) fl9 (fun _ h9 => h9) rfl dX2_learn_16 ?_
      refine lv_iload_n hx hb dX2_learn_19 rfl (lv_at hl 0 rfl) ?_
      refine lv_iconst (v := 0) hx hb dX2_learn_20 hki_0 ?_
      refine va_iast hx hb hK hP hD hS 1 0 rfl rfl (vp_in_nI (show h < 5 by omega) (by decide)) dX2_learn_21 (fun H locs hP hD hS => ?_)
      have hP : va_P D vwCl [_, oqI k q_ahead 5 (upd af2 ((nI h).toNatClampNeg) 0), _, _, _, _, _, _, _, _] H := hP
      have hD : va_D A [_, oqI k q_ahead 5 (upd af2 ((nI h).toNatClampNeg) 0), _, _, _, _, _, _, _, _] := hD
      refine lv_iinc (v := nI (h + 1)) (lv' := [(2, .int (nI (h + 1))), (0, .ref q), (1, .ref t)]) hx hb dX2_learn_22 hl (k := 0) rfl (nI_add (h) 1) (Nat.le_of_ble_eq_true rfl) rfl (fun ls hl => ?_)
      refine lv_goto (tgt := 10) hx hb dX2_learn_25 rfl ?_
      exact ih10 (h + 1, upd af2 ((nI h).toNatClampNeg) 0) (by (try dsimp only); exact ⟨by omega, fun j hj => if e9 : j = h then hs_ue (by omega) e9 else (hs_uc (by omega) e9).trans (hI.2 j (by omega))⟩) (by (try dsimp only); omega) _ _ _ hP hD hS (lv_sub hl [0, 1, 2] rfl)
  · (try dsimp only); exact ⟨by omega, fun j hj => absurd hj (Nat.not_lt_zero j)⟩
