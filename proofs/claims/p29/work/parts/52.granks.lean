set_option maxHeartbeats 4000000 in
set_option maxRecDepth 100000 in
theorem g_mayCome (l : Launch) (D : va_G) (k : Nat → ClassId) (sz : Nat) (q : Nat) (q_ahead : Nat) (q_ways : Nat) (q_z : Nat) (h : Nat) (pl : Int32) (af : Nat → Int32) (hh : h < 5) : MI l yX2_mayCome wsX2_mayCome ({ frames := 0, cells := 0, slots := 0, locals := 0 }) D k [.ref q, .int (nI h), .int pl] [oq1 q q_ahead q_ways (nI q_z), oqI k q_ahead 5 (af)] sz (fun (r : Int32) (u : Unit) => True) (fun (u : Unit) => [oq1 q q_ahead q_ways (nI q_z), oqI k q_ahead 5 (af)]) := by
  refine Met.ofW (cc := cX2_mayCome) (maxL := 3) (ret := (some .boolean)) hpn_X2 rfl ?_
  intro p e s m args below meth c s₁ B hml hv
  obtain ⟨rfl, hsz, hP, hK, hD0, hN⟩ := hv
  have hx := B.exec
  have hb := B.bytes
  have hr := B.returns
  have hlocks := B.notSynchronized
  have hts := atoms_spec (ws := wsX2_mayCome) B.pre
  have hown := findClass_of_methodNamed B.named
  have hown : s.vm.findClass RX2 = some m.cls := hown
  have hiX2 : ∀ w ∈ u_ws RX2 TX2 3, w ∈ wsX2_mayCome := fun w9 hw9 => List.mem_cons_of_mem _ (igX2 w9 hw9)
  have fl9 := hts (.fieldLink RX2 9 "HalfScales$Ranks" "ahead" "[I") (List.mem_cons_of_mem _ (hs_inG 1 176 rfl rfl))
  subst hsz
  have hD := hD0.self (sz := s.heap.size)
  generalize hAe : va_A [oq1 q q_ahead q_ways (nI q_z), oqI k q_ahead 5 (af)] s.heap.size = A at hD ⊢
  have hA : ∀ q : Nat, s.heap.size ≤ q → A q := fun q h => by rw [← hAe]; exact Or.inr h
  have hS : va_S A s.heap s.heap [] := va_S.rf
  have hl := lv_entry ([.ref q, .int (nI h), .int pl]) (n := 3) (Nat.le_of_ble_eq_true rfl)
  rw [lg_entry_eq]
  generalize (lg_sl ([.ref q, .int (nI h), .int pl]) ++ List.replicate (3 - (lg_sl ([.ref q, .int (nI h), .int pl])).length) Slot.unset).toArray = ls at hl ⊢
  have hl : lv_has ls 3 [(0, .ref q), (1, .int (nI h)), (2, .int pl)] := hl
  have hP : va_P D vwCl [oq1 q q_ahead q_ways (nI q_z), oqI k q_ahead 5 (af)] s.heap := hP
  refine lv_aload_n hx hb dX2_mayCome_0 rfl (lv_at hl 0 rfl) ?_
  refine va_get (D := D) (ci := 1) (v := .ref q_ahead) (C := RX2) (T := TX2) (N := 3) hx hb hts hiX2 hown hK hP 0 rfl rfl 0 (Nat.le_of_ble_eq_true rfl) fl9 (fun _ h9 => h9) rfl dX2_mayCome_1 ?_
  refine lv_iload_n hx hb dX2_mayCome_4 rfl (lv_at hl 1 rfl) ?_
  refine va_iald hx hb hK hP 1 0 rfl rfl (vp_in_nI (show h < 5 by omega) (by decide)) dX2_mayCome_5 ?_
  refine lv_iload_n hx hb dX2_mayCome_6 rfl (lv_at hl 2 rfl) ?_
  refine lv_iconst (v := (-1)) hx hb dX2_mayCome_7 hki_m1 ?_
  refine lv_ixor hx hb dX2_mayCome_8 ?_
  refine lv_iand hx hb dX2_mayCome_9 ?_
  refine lv_if_ne (tgt := 17) hx hb dX2_mayCome_10 rfl (fun c_1 => ?_) (fun c_1 => ?_)
  · refine lv_iconst (v := 0) hx hb dX2_mayCome_17 hki_0 ?_
    exact hs_zret hx hb hr hlocks hK hP hD hS () [0, 1] rfl (hs_upnd rfl) dX2_mayCome_18 rfl (trivial)
  · refine lv_iconst (v := 1) hx hb dX2_mayCome_13 hki_1 ?_
    refine lv_goto (tgt := 18) hx hb dX2_mayCome_14 rfl ?_
    exact hs_zret hx hb hr hlocks hK hP hD hS () [0, 1] rfl (hs_upnd rfl) dX2_mayCome_18 rfl (trivial)

set_option maxHeartbeats 4000000 in
set_option maxRecDepth 100000 in
theorem g_howMany (l : Launch) (D : va_G) (k : Nat → ClassId) (sz : Nat) (q : Nat) (q_ahead : Nat) (q_ways : Nat) (q_z : Nat) (af : Nat → Int32) (wf : Nat → Int32) (hz : q_z ≤ 5) : MI l yX2_howMany wsX2_howMany ({ frames := 1, cells := 0, slots := 0, locals := 22 }) D k [.ref q] [oq1 q q_ahead q_ways (nI q_z), oqI k q_ahead 5 (af), oqI k q_ways 32 (wf)] sz (fun (r : Int32) (u : Nat → Int32) => True) (fun (u : Nat → Int32) => [oq1 q q_ahead q_ways (nI q_z), oqI k q_ahead 5 (af), oqI k q_ways 32 (u)]) := by
  refine Met.ofW (cc := cX2_howMany) (maxL := 6) (ret := (some .int)) hpn_X2 rfl ?_
  intro p e s m args below meth c s₁ B hml hv
  obtain ⟨rfl, hsz, hP, hK, hD0, hN⟩ := hv
  have hx := B.exec
  have hb := B.bytes
  have hr := B.returns
  have hlocks := B.notSynchronized
  have hts := atoms_spec (ws := wsX2_howMany) B.pre
  have hown := findClass_of_methodNamed B.named
  have hown : s.vm.findClass RX2 = some m.cls := hown
  have hiX2 : ∀ w ∈ u_ws RX2 TX2 3, w ∈ wsX2_howMany := fun w9 hw9 => List.mem_cons_of_mem _ (igX2 w9 hw9)
  have fl24 := hts (.fieldLink RX2 24 "HalfScales$Ranks" "size" "I") (List.mem_cons_of_mem _ (hs_inG 1 178 rfl rfl))
  have fl15 := hts (.fieldLink RX2 15 "HalfScales$Ranks" "ways" "[I") (List.mem_cons_of_mem _ (hs_inG 1 177 rfl rfl))
  have hp1 : 1 ≤ 2 ^ q_z := Nat.one_le_two_pow
  have hp2 : 2 ^ q_z ≤ 32 := Nat.le_trans (Nat.pow_le_pow_right (n := 2) (by decide) hz) (by decide)
  subst hsz
  have hD := hD0.self (sz := s.heap.size)
  generalize hAe : va_A [oq1 q q_ahead q_ways (nI q_z), oqI k q_ahead 5 (af), oqI k q_ways 32 (wf)] s.heap.size = A at hD ⊢
  have hA : ∀ q : Nat, s.heap.size ≤ q → A q := fun q h => by rw [← hAe]; exact Or.inr h
  have hS : va_S A s.heap s.heap [] := va_S.rf
  have hl := lv_entry ([.ref q]) (n := 6) (Nat.le_of_ble_eq_true rfl)
  rw [lg_entry_eq]
  generalize (lg_sl ([.ref q]) ++ List.replicate (6 - (lg_sl ([.ref q])).length) Slot.unset).toArray = ls at hl ⊢
  have hl : lv_has ls 6 [(0, .ref q)] := hl
  have hP : va_P D vwCl [oq1 q q_ahead q_ways (nI q_z), oqI k q_ahead 5 (af), oqI k q_ways 32 (wf)] s.heap := hP
  refine lv_iconst (v := 1) hx hb dX2_howMany_0 hki_1 ?_
  refine lv_aload_n hx hb dX2_howMany_1 rfl (lv_at hl 0 rfl) ?_
  refine va_get (D := D) (ci := 1) (v := .int (nI q_z)) (C := RX2) (T := TX2) (N := 3) hx hb hts hiX2 hown hK hP 0 rfl rfl 2 (Nat.le_of_ble_eq_true rfl) fl24 (fun _ h9 => h9) rfl dX2_howMany_2 ?_
  refine lv_ishl hx hb dX2_howMany_5 ?_
  refine hs_topi (nI (2 ^ q_z)) (hs_shl (by omega)) ?_
  refine lv_iconst (v := 1) hx hb dX2_howMany_6 hki_1 ?_
  refine lv_isub hx hb dX2_howMany_7 ?_
  refine hs_topi (nI ((2 ^ q_z) - 1)) (pk_sub (a := (2 ^ q_z)) (b := 1) (by omega)) ?_
  refine lv_istore_n (lv' := [(1, .int (nI ((2 ^ q_z) - 1))), (0, .ref q)]) hx hb dX2_howMany_8 rfl hl (Nat.le_of_ble_eq_true rfl) rfl (fun ls hl => ?_)
  refine lv_aload_n hx hb dX2_howMany_9 rfl (lv_at hl 1 rfl) ?_
  refine va_get (D := D) (ci := 1) (v := .ref q_ways) (C := RX2) (T := TX2) (N := 3) hx hb hts hiX2 hown hK hP 0 rfl rfl 1 (Nat.le_of_ble_eq_true rfl) fl15 (fun _ h9 => h9) rfl dX2_howMany_10 ?_
  refine lv_iconst (v := 0) hx hb dX2_howMany_13 hki_0 ?_
  refine lv_iconst (v := 1) hx hb dX2_howMany_14 hki_1 ?_
  refine va_iast hx hb hK hP hD hS 2 0 rfl rfl (hs_in (by decide)) dX2_howMany_15 (fun H locs hP hD hS => ?_)
  have hP : va_P D vwCl [oq1 q q_ahead q_ways (nI q_z), oqI k q_ahead 5 (af), oqI k q_ways 32 (upd wf 0 1)] H := hP
  have hD : va_D A [oq1 q q_ahead q_ways (nI q_z), oqI k q_ahead 5 (af), oqI k q_ways 32 (upd wf 0 1)] := hD
  refine lv_iconst (v := 1) hx hb dX2_howMany_16 hki_1 ?_
  refine lv_istore_n (lv' := [(2, .int 1), (1, .int (nI ((2 ^ q_z) - 1))), (0, .ref q)]) hx hb dX2_howMany_17 rfl hl (Nat.le_of_ble_eq_true rfl) rfl (fun ls hl => ?_)
  refine hs_while (σ := Nat × (Nat → Int32)) (fun x => 1 ≤ x.1 ∧ x.1 ≤ 2 ^ q_z) (fun x => 2 ^ q_z - x.1) (fun x => [oq1 q q_ahead q_ways (nI q_z), oqI k q_ahead 5 (af), oqI k q_ways 32 ((x.2))]) (fun x => [(2, .int (nI (x.1))), (1, .int (nI ((2 ^ q_z) - 1))), (0, .ref q)]) ?_ (1, upd wf 0 1) ?_ hP hD hS hl
  · intro x hI ih18 H locs ls hP hD hS hl
    obtain ⟨pl, wf2⟩ := x
    try dsimp only at hI
    have hP : va_P D vwCl [_, _, oqI k q_ways 32 (wf2)] H := hP
    have hD : va_D A [_, _, oqI k q_ways 32 (wf2)] := hD
    have hl : lv_has ls 6 [(2, .int (nI pl)), (1, .int (nI ((2 ^ q_z) - 1))), (0, .ref q)] := hl
    refine lv_iload_n hx hb dX2_howMany_18 rfl (lv_at hl 0 rfl) ?_
    refine lv_iload_n hx hb dX2_howMany_19 rfl (lv_at hl 1 rfl) ?_
    refine lv_icmp_gt (tgt := 93) hx hb dX2_howMany_20 rfl (fun c_1 => ?_) (fun c_1 => ?_)
    · have nc_1 : ((2 ^ q_z) - 1) < pl := (nI_ltI (a := ((2 ^ q_z) - 1)) (b := pl) (by omega) (by omega)).mp c_1
      refine lv_aload_n hx hb dX2_howMany_93 rfl (lv_at hl 2 rfl) ?_
      refine va_get (D := D) (ci := 1) (v := .ref q_ways) (C := RX2) (T := TX2) (N := 3) hx hb hts hiX2 hown hK hP 0 rfl rfl 1 (Nat.le_of_ble_eq_true rfl) fl15 (fun _ h9 => h9) rfl dX2_howMany_94 ?_
      refine lv_iload_n hx hb dX2_howMany_97 rfl (lv_at hl 1 rfl) ?_
      refine va_iald hx hb hK hP 2 0 rfl rfl (vp_in_nI (show ((2 ^ q_z) - 1) < 32 by omega) (by decide)) dX2_howMany_98 ?_
      exact hs_iret hx hb hr hlocks hK hP hD hS wf2 [0, 1, 2] rfl (hs_upnd rfl) dX2_howMany_99 (trivial)
    · have nc_1 : ¬ ((2 ^ q_z) - 1) < pl := fun hq9 => c_1 ((nI_ltI (a := ((2 ^ q_z) - 1)) (b := pl) (by omega) (by omega)).mpr hq9)
      refine lv_iconst (v := 0) hx hb dX2_howMany_23 hki_0 ?_
      refine lv_istore_n (lv' := [(3, .int 0), (2, .int (nI pl)), (1, .int (nI ((2 ^ q_z) - 1))), (0, .ref q)]) hx hb dX2_howMany_24 rfl hl (Nat.le_of_ble_eq_true rfl) rfl (fun ls hl => ?_)
      refine lv_iconst (v := 0) hx hb dX2_howMany_25 hki_0 ?_
      refine lv_istore (lv' := [(4, .int 0), (3, .int 0), (2, .int (nI pl)), (1, .int (nI ((2 ^ q_z) - 1))), (0, .ref q)]) hx hb dX2_howMany_26 hl (Nat.le_of_ble_eq_true rfl) rfl (fun ls hl => ?_)
      refine hs_while (σ := Int32 × Nat) (fun x => x.2 ≤ q_z) (fun x => q_z - x.2) (fun x => [oq1 q q_ahead q_ways (nI q_z), oqI k q_ahead 5 (af), oqI k q_ways 32 (wf2)]) (fun x => [(4, .int (nI (x.2))), (3, .int (x.1)), (2, .int (nI pl)), (1, .int (nI ((2 ^ q_z) - 1))), (0, .ref q)]) ?_ (0, 0) ?_ hP hD hS hl
      · intro x hI ih28 H locs ls hP hD hS hl
        obtain ⟨sum, h⟩ := x
        try dsimp only at hI
        have hP : va_P D vwCl [_, _, _] H := hP
        have hD : va_D A [_, _, _] := hD
        have hl : lv_has ls 6 [(4, .int (nI h)), (3, .int sum), (2, .int (nI pl)), (1, .int (nI ((2 ^ q_z) - 1))), (0, .ref q)] := hl
        refine lv_iload hx hb dX2_howMany_28 (lv_at hl 0 rfl) ?_
        refine lv_aload_n hx hb dX2_howMany_30 rfl (lv_at hl 4 rfl) ?_
        refine va_get (D := D) (ci := 1) (v := .int (nI q_z)) (C := RX2) (T := TX2) (N := 3) hx hb hts hiX2 hown hK hP 0 rfl rfl 2 (Nat.le_of_ble_eq_true rfl) fl24 (fun _ h9 => h9) rfl dX2_howMany_31 ?_
        refine lv_icmp_ge (tgt := 80) hx hb dX2_howMany_34 rfl (fun c_2 => ?_) (fun c_2 => ?_)
        · have nc_2 : q_z ≤ h := (nI_leI (a := q_z) (b := h) (by omega) (by omega)).mp c_2
          refine lv_aload_n hx hb dX2_howMany_80 rfl (lv_at hl 4 rfl) ?_
          refine va_get (D := D) (ci := 1) (v := .ref q_ways) (C := RX2) (T := TX2) (N := 3) hx hb hts hiX2 hown hK hP 0 rfl rfl 1 (Nat.le_of_ble_eq_true rfl) fl15 (fun _ h9 => h9) rfl dX2_howMany_81 ?_
          refine lv_iload_n hx hb dX2_howMany_84 rfl (lv_at hl 2 rfl) ?_
          refine lv_iload_n hx hb dX2_howMany_85 rfl (lv_at hl 1 rfl) ?_
          refine va_iast hx hb hK hP hD hS 2 0 rfl rfl (vp_in_nI (show pl < 32 by omega) (by decide)) dX2_howMany_86 (fun H locs hP hD hS => ?_)
          have hP : va_P D vwCl [_, _, oqI k q_ways 32 (upd wf2 ((nI pl).toNatClampNeg) sum)] H := hP
          have hD : va_D A [_, _, oqI k q_ways 32 (upd wf2 ((nI pl).toNatClampNeg) sum)] := hD
          refine lv_iinc (v := nI (pl + 1)) (lv' := [(2, .int (nI (pl + 1))), (4, .int (nI h)), (3, .int sum), (1, .int (nI ((2 ^ q_z) - 1))), (0, .ref q)]) hx hb dX2_howMany_87 hl (k := 2) rfl (nI_add (pl) 1) (Nat.le_of_ble_eq_true rfl) rfl (fun ls hl => ?_)
          refine lv_goto (tgt := 18) hx hb dX2_howMany_90 rfl ?_
          exact ih18 (pl + 1, upd wf2 ((nI pl).toNatClampNeg) sum) (by (try dsimp only); first | omega | (refine ⟨?_, ?_⟩ <;> first | omega | assumption)) (by (try dsimp only); omega) _ _ _ hP hD hS (lv_sub hl [0, 3, 4] rfl)
        · have nc_2 : ¬ q_z ≤ h := fun hq9 => c_2 ((nI_leI (a := q_z) (b := h) (by omega) (by omega)).mpr hq9)
          refine lv_iload_n hx hb dX2_howMany_37 rfl (lv_at hl 2 rfl) ?_
          refine lv_iconst (v := 1) hx hb dX2_howMany_38 hki_1 ?_
          refine lv_iload hx hb dX2_howMany_39 (lv_at hl 0 rfl) ?_
          refine lv_ishl hx hb dX2_howMany_41 ?_
          refine lv_iconst (v := (-1)) hx hb dX2_howMany_42 hki_m1 ?_
          refine lv_ixor hx hb dX2_howMany_43 ?_
          refine lv_iand hx hb dX2_howMany_44 ?_
          obtain ⟨ot, hot, eot⟩ := hs_and_le (a := pl) (show pl < 2 ^ 31 by omega) ((1 <<< ((nI h) &&& 31)) ^^^ (-1))
          refine hs_topi (nI ot) eot ?_
          refine lv_istore (lv' := [(5, .int (nI ot)), (4, .int (nI h)), (3, .int sum), (2, .int (nI pl)), (1, .int (nI ((2 ^ q_z) - 1))), (0, .ref q)]) hx hb dX2_howMany_45 hl (Nat.le_of_ble_eq_true rfl) rfl (fun ls hl => ?_)
          refine lv_iload hx hb dX2_howMany_47 (lv_at hl 0 rfl) ?_
          refine lv_iload_n hx hb dX2_howMany_49 rfl (lv_at hl 3 rfl) ?_
          refine lv_icmp_eq (tgt := 74) hx hb dX2_howMany_50 rfl (fun c_3 => ?_) (fun c_3 => ?_)
          · have nc_3 : ot = pl := (nI_eq (a := ot) (b := pl) (by omega) (by omega)).mp c_3
            refine lv_iinc (v := nI (h + 1)) (lv' := [(4, .int (nI (h + 1))), (5, .int (nI ot)), (3, .int sum), (2, .int (nI pl)), (1, .int (nI ((2 ^ q_z) - 1))), (0, .ref q)]) hx hb dX2_howMany_74 hl (k := 1) rfl (nI_add (h) 1) (Nat.le_of_ble_eq_true rfl) rfl (fun ls hl => ?_)
            refine lv_goto (tgt := 28) hx hb dX2_howMany_77 rfl ?_
            exact ih28 (sum, h + 1) (by (try dsimp only); first | omega | (refine ⟨?_, ?_⟩ <;> first | omega | assumption)) (by (try dsimp only); omega) _ _ _ hP hD hS (lv_sub hl [0, 2, 3, 4, 5] rfl)
          · have nc_3 : ¬ ot = pl := fun hq9 => c_3 ((nI_eq (a := ot) (b := pl) (by omega) (by omega)).mpr hq9)
            refine lv_aload_n hx hb dX2_howMany_53 rfl (lv_at hl 5 rfl) ?_
            refine lv_iload hx hb dX2_howMany_54 (lv_at hl 1 rfl) ?_
            refine lv_iload hx hb dX2_howMany_56 (lv_at hl 0 rfl) ?_
            refine hs_ciM (va_runV (As := [.int (nI h), .int (nI ot)]) (rest := []) ⟨hx, hb, hml, hown, hts⟩ (g_mayCome l D k _ q q_ahead q_ways q_z h (nI ot) af (by omega)) (cwV 2 hts gX2_howMany_X2_mayCome rfl rfl rfl ⟨rfl, hq_X2_mayCome⟩ ⟨Nat.le_of_ble_eq_true rfl, Nat.le_of_ble_eq_true rfl⟩) (hs_preV hK hN (hs_subP (w := [_, _]) hP [0, 1] rfl) (hD.sub (ws' := [_, _]) [0, 1] (hs_upnd rfl) rfl) (ci := 1) (q0 := 0) rfl rfl) rfl rfl hl.1 rfl (lv_room (Nat.le_of_ble_eq_true rfl)) dX2_howMany_58 ⟨Nat.le_of_ble_eq_true rfl, Nat.le_of_ble_eq_true rfl⟩) hP hD hS hA [false, false, true] [_] [_, _] rfl [0, 1] rfl [0, 1] (fun u_6 => [_, _]) (fun _ => rfl) (hs_upnd rfl) [false, false, true] (fun u_6 => [_, _, _]) (fun _ => rfl) (fun r_4 u_6 H locs hw_5 hP hD hS => ?_)
            refine lv_if_eq (tgt := 74) hx hb dX2_howMany_61 rfl (fun c_7 => ?_) (fun c_7 => ?_)
            · refine lv_iinc (v := nI (h + 1)) (lv' := [(4, .int (nI (h + 1))), (5, .int (nI ot)), (3, .int sum), (2, .int (nI pl)), (1, .int (nI ((2 ^ q_z) - 1))), (0, .ref q)]) hx hb dX2_howMany_74 hl (k := 1) rfl (nI_add (h) 1) (Nat.le_of_ble_eq_true rfl) rfl (fun ls hl => ?_)
              refine lv_goto (tgt := 28) hx hb dX2_howMany_77 rfl ?_
              exact ih28 (sum, h + 1) (by (try dsimp only); first | omega | (refine ⟨?_, ?_⟩ <;> first | omega | assumption)) (by (try dsimp only); omega) _ _ _ hP hD hS (lv_sub hl [0, 2, 3, 4, 5] rfl)
            · refine lv_iload_n hx hb dX2_howMany_64 rfl (lv_at hl 2 rfl) ?_
              refine lv_aload_n hx hb dX2_howMany_65 rfl (lv_at hl 5 rfl) ?_
              refine va_get (D := D) (ci := 1) (v := .ref q_ways) (C := RX2) (T := TX2) (N := 3) hx hb hts hiX2 hown hK hP 0 rfl rfl 1 (Nat.le_of_ble_eq_true rfl) fl15 (fun _ h9 => h9) rfl dX2_howMany_66 ?_
              refine lv_iload hx hb dX2_howMany_69 (lv_at hl 0 rfl) ?_
              refine va_iald hx hb hK hP 2 0 rfl rfl (vp_in_nI (show ot < 32 by omega) (by decide)) dX2_howMany_71 ?_
              refine lv_iadd hx hb dX2_howMany_72 ?_
              refine lv_istore_n (lv' := [(3, .int (sum + (wf2 (nI ot).toNatClampNeg))), (5, .int (nI ot)), (4, .int (nI h)), (2, .int (nI pl)), (1, .int (nI ((2 ^ q_z) - 1))), (0, .ref q)]) hx hb dX2_howMany_73 rfl hl (Nat.le_of_ble_eq_true rfl) rfl (fun ls hl => ?_)
              refine lv_iinc (v := nI (h + 1)) (lv' := [(4, .int (nI (h + 1))), (3, .int (sum + (wf2 (nI ot).toNatClampNeg))), (5, .int (nI ot)), (2, .int (nI pl)), (1, .int (nI ((2 ^ q_z) - 1))), (0, .ref q)]) hx hb dX2_howMany_74 hl (k := 2) rfl (nI_add (h) 1) (Nat.le_of_ble_eq_true rfl) rfl (fun ls hl => ?_)
              refine lv_goto (tgt := 28) hx hb dX2_howMany_77 rfl ?_
              exact ih28 (sum + (wf2 (nI ot).toNatClampNeg), h + 1) (by (try dsimp only); first | omega | (refine ⟨?_, ?_⟩ <;> first | omega | assumption)) (by (try dsimp only); omega) _ _ _ hP hD hS (lv_sub hl [0, 1, 3, 4, 5] rfl)
      · (try dsimp only); first | omega | (refine ⟨?_, ?_⟩ <;> first | omega | assumption)
  · (try dsimp only); first | omega | (refine ⟨?_, ?_⟩ <;> first | omega | assumption)

set_option maxHeartbeats 4000000 in
set_option maxRecDepth 100000 in
theorem g_howManyWith (l : Launch) (D : va_G) (k : Nat → ClassId) (sz : Nat) (q : Nat) (q_ahead : Nat) (q_ways : Nat) (q_z : Nat) (a : Int32) (b : Nat) (af : Nat → Int32) (wf : Nat → Int32) (hz : q_z ≤ 5) (hb5 : b < 5) : MI l yX2_howManyWith wsX2_howManyWith ({ frames := 2, cells := 0, slots := 0, locals := 47 }) D k [.ref q, .int a, .int (nI b)] [oq1 q q_ahead q_ways (nI q_z), oqI k q_ahead 5 (af), oqI k q_ways 32 (wf)] sz (fun (r : Int32) (u : (Nat → Int32) × (Nat → Int32)) => True) (fun (u : (Nat → Int32) × (Nat → Int32)) => [oq1 q q_ahead q_ways (nI q_z), oqI k q_ahead 5 (u.1), oqI k q_ways 32 (u.2)]) := by
  refine Met.ofW (cc := cX2_howManyWith) (maxL := 5) (ret := (some .int)) hpn_X2 rfl ?_
  intro p e s m args below meth c s₁ B hml hv
  obtain ⟨rfl, hsz, hP, hK, hD0, hN⟩ := hv
  have hx := B.exec
  have hb := B.bytes
  have hr := B.returns
  have hlocks := B.notSynchronized
  have hts := atoms_spec (ws := wsX2_howManyWith) B.pre
  have hown := findClass_of_methodNamed B.named
  have hown : s.vm.findClass RX2 = some m.cls := hown
  have hiX2 : ∀ w ∈ u_ws RX2 TX2 3, w ∈ wsX2_howManyWith := fun w9 hw9 => List.mem_cons_of_mem _ (igX2 w9 hw9)
  have fl9 := hts (.fieldLink RX2 9 "HalfScales$Ranks" "ahead" "[I") (List.mem_cons_of_mem _ (hs_inG 1 176 rfl rfl))
  subst hsz
  have hD := hD0.self (sz := s.heap.size)
  generalize hAe : va_A [oq1 q q_ahead q_ways (nI q_z), oqI k q_ahead 5 (af), oqI k q_ways 32 (wf)] s.heap.size = A at hD ⊢
  have hA : ∀ q : Nat, s.heap.size ≤ q → A q := fun q h => by rw [← hAe]; exact Or.inr h
  have hS : va_S A s.heap s.heap [] := va_S.rf
  have hl := lv_entry ([.ref q, .int a, .int (nI b)]) (n := 5) (Nat.le_of_ble_eq_true rfl)
  rw [lg_entry_eq]
  generalize (lg_sl ([.ref q, .int a, .int (nI b)]) ++ List.replicate (5 - (lg_sl ([.ref q, .int a, .int (nI b)])).length) Slot.unset).toArray = ls at hl ⊢
  have hl : lv_has ls 5 [(0, .ref q), (1, .int a), (2, .int (nI b))] := hl
  have hP : va_P D vwCl [oq1 q q_ahead q_ways (nI q_z), oqI k q_ahead 5 (af), oqI k q_ways 32 (wf)] s.heap := hP
  refine lv_aload_n hx hb dX2_howManyWith_0 rfl (lv_at hl 0 rfl) ?_
  refine va_get (D := D) (ci := 1) (v := .ref q_ahead) (C := RX2) (T := TX2) (N := 3) hx hb hts hiX2 hown hK hP 0 rfl rfl 0 (Nat.le_of_ble_eq_true rfl) fl9 (fun _ h9 => h9) rfl dX2_howManyWith_1 ?_
  refine lv_iload_n hx hb dX2_howManyWith_4 rfl (lv_at hl 2 rfl) ?_
  refine va_iald hx hb hK hP 1 0 rfl rfl (vp_in_nI (show b < 5 by omega) (by decide)) dX2_howManyWith_5 ?_
  refine lv_istore_n (lv' := [(3, .int (af (nI b).toNatClampNeg)), (0, .ref q), (1, .int a), (2, .int (nI b))]) hx hb dX2_howManyWith_6 rfl hl (Nat.le_of_ble_eq_true rfl) rfl (fun ls hl => ?_)
  refine lv_aload_n hx hb dX2_howManyWith_7 rfl (lv_at hl 1 rfl) ?_
  refine va_get (D := D) (ci := 1) (v := .ref q_ahead) (C := RX2) (T := TX2) (N := 3) hx hb hts hiX2 hown hK hP 0 rfl rfl 0 (Nat.le_of_ble_eq_true rfl) fl9 (fun _ h9 => h9) rfl dX2_howManyWith_8 ?_
  refine lv_iload_n hx hb dX2_howManyWith_11 rfl (lv_at hl 3 rfl) ?_
  refine lv_iload_n hx hb dX2_howManyWith_12 rfl (lv_at hl 0 rfl) ?_
  refine lv_iconst (v := 1) hx hb dX2_howManyWith_13 hki_1 ?_
  refine lv_iload_n hx hb dX2_howManyWith_14 rfl (lv_at hl 2 rfl) ?_
  refine lv_ishl hx hb dX2_howManyWith_15 ?_
  refine lv_ior hx hb dX2_howManyWith_16 ?_
  refine va_iast hx hb hK hP hD hS 1 0 rfl rfl (vp_in_nI (show b < 5 by omega) (by decide)) dX2_howManyWith_17 (fun H locs hP hD hS => ?_)
  have hP : va_P D vwCl [oq1 q q_ahead q_ways (nI q_z), oqI k q_ahead 5 (upd af ((nI b).toNatClampNeg) ((af (nI b).toNatClampNeg) ||| (1 <<< (a &&& 31)))), oqI k q_ways 32 (wf)] H := hP
  have hD : va_D A [oq1 q q_ahead q_ways (nI q_z), oqI k q_ahead 5 (upd af ((nI b).toNatClampNeg) ((af (nI b).toNatClampNeg) ||| (1 <<< (a &&& 31)))), oqI k q_ways 32 (wf)] := hD
  refine lv_aload_n hx hb dX2_howManyWith_18 rfl (lv_at hl 1 rfl) ?_
  refine hs_ciM (va_runV (As := []) (rest := []) ⟨hx, hb, hml, hown, hts⟩ (g_howMany l D k _ q q_ahead q_ways q_z (upd af ((nI b).toNatClampNeg) ((af (nI b).toNatClampNeg) ||| (1 <<< (a &&& 31)))) wf (by omega)) (cwV 0 hts gX2_howManyWith_X2_howMany rfl rfl rfl ⟨rfl, hq_X2_howMany⟩ ⟨Nat.le_of_ble_eq_true rfl, Nat.le_of_ble_eq_true rfl⟩) (hs_preV hK hN (hs_subP (w := [_, _, _]) hP [0, 1, 2] rfl) (hD.sub (ws' := [_, _, _]) [0, 1, 2] (hs_upnd rfl) rfl) (ci := 1) (q0 := 0) rfl rfl) rfl rfl hl.1 rfl (lv_room (Nat.le_of_ble_eq_true rfl)) dX2_howManyWith_19 ⟨Nat.le_of_ble_eq_true rfl, Nat.le_of_ble_eq_true rfl⟩) hP hD hS hA [false, false, false] [] [_, _, _] rfl [0, 1, 2] rfl [0, 1, 2] (fun u_3 => [_, _, _]) (fun _ => rfl) (hs_upnd rfl) [false, false, false] (fun u_3 => [_, _, _]) (fun _ => rfl) (fun r_1 u_3 H locs hw_2 hP hD hS => ?_)
  refine lv_istore (lv' := [(4, .int r_1), (3, .int (af (nI b).toNatClampNeg)), (0, .ref q), (1, .int a), (2, .int (nI b))]) hx hb dX2_howManyWith_22 hl (Nat.le_of_ble_eq_true rfl) rfl (fun ls hl => ?_)
  refine lv_aload_n hx hb dX2_howManyWith_24 rfl (lv_at hl 2 rfl) ?_
  refine va_get (D := D) (ci := 1) (v := .ref q_ahead) (C := RX2) (T := TX2) (N := 3) hx hb hts hiX2 hown hK hP 0 rfl rfl 0 (Nat.le_of_ble_eq_true rfl) fl9 (fun _ h9 => h9) rfl dX2_howManyWith_25 ?_
  refine lv_iload_n hx hb dX2_howManyWith_28 rfl (lv_at hl 4 rfl) ?_
  refine lv_iload_n hx hb dX2_howManyWith_29 rfl (lv_at hl 1 rfl) ?_
  refine va_iast hx hb hK hP hD hS 1 0 rfl rfl (vp_in_nI (show b < 5 by omega) (by decide)) dX2_howManyWith_30 (fun H locs hP hD hS => ?_)
  have hP : va_P D vwCl [_, oqI k q_ahead 5 (upd (upd af ((nI b).toNatClampNeg) ((af (nI b).toNatClampNeg) ||| (1 <<< (a &&& 31)))) ((nI b).toNatClampNeg) (af (nI b).toNatClampNeg)), _] H := hP
  have hD : va_D A [_, oqI k q_ahead 5 (upd (upd af ((nI b).toNatClampNeg) ((af (nI b).toNatClampNeg) ||| (1 <<< (a &&& 31)))) ((nI b).toNatClampNeg) (af (nI b).toNatClampNeg)), _] := hD
  refine lv_iload hx hb dX2_howManyWith_31 (lv_at hl 0 rfl) ?_
  exact hs_iret hx hb hr hlocks hK hP hD hS (upd (upd af ((nI b).toNatClampNeg) ((af (nI b).toNatClampNeg) ||| (1 <<< (a &&& 31)))) ((nI b).toNatClampNeg) (af (nI b).toNatClampNeg), u_3) [0, 1, 2] rfl (hs_upnd rfl) dX2_howManyWith_33 (trivial)

set_option maxHeartbeats 4000000 in
set_option maxRecDepth 100000 in
theorem g_lightest (l : Launch) (D : va_G) (k : Nat → ClassId) (sz : Nat) (q : Nat) (q_ahead : Nat) (q_ways : Nat) (q_z : Nat) (af : Nat → Int32) (hz : q_z ≤ 5) : MI l yX2_lightest wsX2_lightest ({ frames := 0, cells := 0, slots := 0, locals := 0 }) D k [.ref q] [oq1 q q_ahead q_ways (nI q_z), oqI k q_ahead 5 (af)] sz (fun (r : Int32) (u : Unit) => True) (fun (u : Unit) => [oq1 q q_ahead q_ways (nI q_z), oqI k q_ahead 5 (af)]) := by
  refine Met.ofW (cc := cX2_lightest) (maxL := 3) (ret := (some .int)) hpn_X2 rfl ?_
  intro p e s m args below meth c s₁ B hml hv
  obtain ⟨rfl, hsz, hP, hK, hD0, hN⟩ := hv
  have hx := B.exec
  have hb := B.bytes
  have hr := B.returns
  have hlocks := B.notSynchronized
  have hts := atoms_spec (ws := wsX2_lightest) B.pre
  have hown := findClass_of_methodNamed B.named
  have hown : s.vm.findClass RX2 = some m.cls := hown
  have hiX2 : ∀ w ∈ u_ws RX2 TX2 3, w ∈ wsX2_lightest := fun w9 hw9 => List.mem_cons_of_mem _ (igX2 w9 hw9)
  have fl24 := hts (.fieldLink RX2 24 "HalfScales$Ranks" "size" "I") (List.mem_cons_of_mem _ (hs_inG 1 178 rfl rfl))
  have fl9 := hts (.fieldLink RX2 9 "HalfScales$Ranks" "ahead" "[I") (List.mem_cons_of_mem _ (hs_inG 1 176 rfl rfl))
  subst hsz
  have hD := hD0.self (sz := s.heap.size)
  generalize hAe : va_A [oq1 q q_ahead q_ways (nI q_z), oqI k q_ahead 5 (af)] s.heap.size = A at hD ⊢
  have hA : ∀ q : Nat, s.heap.size ≤ q → A q := fun q h => by rw [← hAe]; exact Or.inr h
  have hS : va_S A s.heap s.heap [] := va_S.rf
  have hl := lv_entry ([.ref q]) (n := 3) (Nat.le_of_ble_eq_true rfl)
  rw [lg_entry_eq]
  generalize (lg_sl ([.ref q]) ++ List.replicate (3 - (lg_sl ([.ref q])).length) Slot.unset).toArray = ls at hl ⊢
  have hl : lv_has ls 3 [(0, .ref q)] := hl
  have hP : va_P D vwCl [oq1 q q_ahead q_ways (nI q_z), oqI k q_ahead 5 (af)] s.heap := hP
  refine lv_iconst (v := 0) hx hb dX2_lightest_0 hki_0 ?_
  refine lv_istore_n (lv' := [(1, .int 0), (0, .ref q)]) hx hb dX2_lightest_1 rfl hl (Nat.le_of_ble_eq_true rfl) rfl (fun ls hl => ?_)
  refine lv_iconst (v := 0) hx hb dX2_lightest_2 hki_0 ?_
  refine lv_istore_n (lv' := [(2, .int 0), (1, .int 0), (0, .ref q)]) hx hb dX2_lightest_3 rfl hl (Nat.le_of_ble_eq_true rfl) rfl (fun ls hl => ?_)
  refine hs_while (σ := Int32 × Nat) (fun x => x.2 ≤ q_z) (fun x => q_z - x.2) (fun x => [oq1 q q_ahead q_ways (nI q_z), oqI k q_ahead 5 (af)]) (fun x => [(2, .int (nI (x.2))), (1, .int (x.1)), (0, .ref q)]) ?_ (0, 0) ?_ hP hD hS hl
  · intro x hI ih4 H locs ls hP hD hS hl
    obtain ⟨fo, h⟩ := x
    try dsimp only at hI
    have hP : va_P D vwCl [oq1 q q_ahead q_ways (nI q_z), oqI k q_ahead 5 (af)] H := hP
    have hD : va_D A [oq1 q q_ahead q_ways (nI q_z), oqI k q_ahead 5 (af)] := hD
    have hl : lv_has ls 3 [(2, .int (nI h)), (1, .int fo), (0, .ref q)] := hl
    refine lv_iload_n hx hb dX2_lightest_4 rfl (lv_at hl 0 rfl) ?_
    refine lv_aload_n hx hb dX2_lightest_5 rfl (lv_at hl 2 rfl) ?_
    refine va_get (D := D) (ci := 1) (v := .int (nI q_z)) (C := RX2) (T := TX2) (N := 3) hx hb hts hiX2 hown hK hP 0 rfl rfl 2 (Nat.le_of_ble_eq_true rfl) fl24 (fun _ h9 => h9) rfl dX2_lightest_6 ?_
    refine lv_icmp_ge (tgt := 33) hx hb dX2_lightest_9 rfl (fun c_1 => ?_) (fun c_1 => ?_)
    · have nc_1 : q_z ≤ h := (nI_leI (a := q_z) (b := h) (by omega) (by omega)).mp c_1
      refine lv_iload_n hx hb dX2_lightest_33 rfl (lv_at hl 1 rfl) ?_
      exact hs_iret hx hb hr hlocks hK hP hD hS () [0, 1] rfl (hs_upnd rfl) dX2_lightest_34 (trivial)
    · have nc_1 : ¬ q_z ≤ h := fun hq9 => c_1 ((nI_leI (a := q_z) (b := h) (by omega) (by omega)).mpr hq9)
      refine lv_aload_n hx hb dX2_lightest_12 rfl (lv_at hl 2 rfl) ?_
      refine va_get (D := D) (ci := 1) (v := .ref q_ahead) (C := RX2) (T := TX2) (N := 3) hx hb hts hiX2 hown hK hP 0 rfl rfl 0 (Nat.le_of_ble_eq_true rfl) fl9 (fun _ h9 => h9) rfl dX2_lightest_13 ?_
      refine lv_iload_n hx hb dX2_lightest_16 rfl (lv_at hl 0 rfl) ?_
      refine va_iald hx hb hK hP 1 0 rfl rfl (vp_in_nI (show h < 5 by omega) (by decide)) dX2_lightest_17 ?_
      refine lv_if_ne (tgt := 27) hx hb dX2_lightest_18 rfl (fun c_2 => ?_) (fun c_2 => ?_)
      · refine lv_iinc (v := nI (h + 1)) (lv' := [(2, .int (nI (h + 1))), (1, .int fo), (0, .ref q)]) hx hb dX2_lightest_27 hl (k := 0) rfl (nI_add (h) 1) (Nat.le_of_ble_eq_true rfl) rfl (fun ls hl => ?_)
        refine lv_goto (tgt := 4) hx hb dX2_lightest_30 rfl ?_
        exact ih4 (fo, h + 1) (by (try dsimp only); first | omega | (refine ⟨?_, ?_⟩ <;> first | omega | assumption)) (by (try dsimp only); omega) _ _ _ hP hD hS (lv_sub hl [0, 1, 2] rfl)
      · refine lv_iload_n hx hb dX2_lightest_21 rfl (lv_at hl 1 rfl) ?_
        refine lv_iconst (v := 1) hx hb dX2_lightest_22 hki_1 ?_
        refine lv_iload_n hx hb dX2_lightest_23 rfl (lv_at hl 0 rfl) ?_
        refine lv_ishl hx hb dX2_lightest_24 ?_
        refine lv_ior hx hb dX2_lightest_25 ?_
        refine lv_istore_n (lv' := [(1, .int (fo ||| (1 <<< ((nI h) &&& 31)))), (2, .int (nI h)), (0, .ref q)]) hx hb dX2_lightest_26 rfl hl (Nat.le_of_ble_eq_true rfl) rfl (fun ls hl => ?_)
        refine lv_iinc (v := nI (h + 1)) (lv' := [(2, .int (nI (h + 1))), (1, .int (fo ||| (1 <<< ((nI h) &&& 31)))), (0, .ref q)]) hx hb dX2_lightest_27 hl (k := 1) rfl (nI_add (h) 1) (Nat.le_of_ble_eq_true rfl) rfl (fun ls hl => ?_)
        refine lv_goto (tgt := 4) hx hb dX2_lightest_30 rfl ?_
        exact ih4 (fo ||| (1 <<< ((nI h) &&& 31)), h + 1) (by (try dsimp only); first | omega | (refine ⟨?_, ?_⟩ <;> first | omega | assumption)) (by (try dsimp only); omega) _ _ _ hP hD hS (lv_sub hl [0, 1, 2] rfl)
  · (try dsimp only); first | omega | (refine ⟨?_, ?_⟩ <;> first | omega | assumption)

set_option maxHeartbeats 4000000 in
set_option maxRecDepth 100000 in
theorem g_heaviest (l : Launch) (D : va_G) (k : Nat → ClassId) (sz : Nat) (q : Nat) (q_ahead : Nat) (q_ways : Nat) (q_z : Nat) (af : Nat → Int32) (hz : q_z ≤ 5) : MI l yX2_heaviest wsX2_heaviest ({ frames := 0, cells := 0, slots := 0, locals := 0 }) D k [.ref q] [oq1 q q_ahead q_ways (nI q_z), oqI k q_ahead 5 (af)] sz (fun (r : Int32) (u : Unit) => True) (fun (u : Unit) => [oq1 q q_ahead q_ways (nI q_z), oqI k q_ahead 5 (af)]) := by
  refine Met.ofW (cc := cX2_heaviest) (maxL := 3) (ret := (some .int)) hpn_X2 rfl ?_
  intro p e s m args below meth c s₁ B hml hv
  obtain ⟨rfl, hsz, hP, hK, hD0, hN⟩ := hv
  have hx := B.exec
  have hb := B.bytes
  have hr := B.returns
  have hlocks := B.notSynchronized
  have hts := atoms_spec (ws := wsX2_heaviest) B.pre
  have hown := findClass_of_methodNamed B.named
  have hown : s.vm.findClass RX2 = some m.cls := hown
  have hiX2 : ∀ w ∈ u_ws RX2 TX2 3, w ∈ wsX2_heaviest := fun w9 hw9 => List.mem_cons_of_mem _ (igX2 w9 hw9)
  have fl24 := hts (.fieldLink RX2 24 "HalfScales$Ranks" "size" "I") (List.mem_cons_of_mem _ (hs_inG 1 178 rfl rfl))
  have fl9 := hts (.fieldLink RX2 9 "HalfScales$Ranks" "ahead" "[I") (List.mem_cons_of_mem _ (hs_inG 1 176 rfl rfl))
  subst hsz
  have hD := hD0.self (sz := s.heap.size)
  generalize hAe : va_A [oq1 q q_ahead q_ways (nI q_z), oqI k q_ahead 5 (af)] s.heap.size = A at hD ⊢
  have hA : ∀ q : Nat, s.heap.size ≤ q → A q := fun q h => by rw [← hAe]; exact Or.inr h
  have hS : va_S A s.heap s.heap [] := va_S.rf
  have hl := lv_entry ([.ref q]) (n := 3) (Nat.le_of_ble_eq_true rfl)
  rw [lg_entry_eq]
  generalize (lg_sl ([.ref q]) ++ List.replicate (3 - (lg_sl ([.ref q])).length) Slot.unset).toArray = ls at hl ⊢
  have hl : lv_has ls 3 [(0, .ref q)] := hl
  have hP : va_P D vwCl [oq1 q q_ahead q_ways (nI q_z), oqI k q_ahead 5 (af)] s.heap := hP
  refine lv_iconst (v := 1) hx hb dX2_heaviest_0 hki_1 ?_
  refine lv_aload_n hx hb dX2_heaviest_1 rfl (lv_at hl 0 rfl) ?_
  refine va_get (D := D) (ci := 1) (v := .int (nI q_z)) (C := RX2) (T := TX2) (N := 3) hx hb hts hiX2 hown hK hP 0 rfl rfl 2 (Nat.le_of_ble_eq_true rfl) fl24 (fun _ h9 => h9) rfl dX2_heaviest_2 ?_
  refine lv_ishl hx hb dX2_heaviest_5 ?_
  refine lv_iconst (v := 1) hx hb dX2_heaviest_6 hki_1 ?_
  refine lv_isub hx hb dX2_heaviest_7 ?_
  refine lv_istore_n (lv' := [(1, .int ((1 <<< ((nI q_z) &&& 31)) - 1)), (0, .ref q)]) hx hb dX2_heaviest_8 rfl hl (Nat.le_of_ble_eq_true rfl) rfl (fun ls hl => ?_)
  refine lv_iconst (v := 0) hx hb dX2_heaviest_9 hki_0 ?_
  refine lv_istore_n (lv' := [(2, .int 0), (1, .int ((1 <<< ((nI q_z) &&& 31)) - 1)), (0, .ref q)]) hx hb dX2_heaviest_10 rfl hl (Nat.le_of_ble_eq_true rfl) rfl (fun ls hl => ?_)
  refine hs_while (σ := Int32 × Nat) (fun x => x.2 ≤ q_z) (fun x => q_z - x.2) (fun x => [oq1 q q_ahead q_ways (nI q_z), oqI k q_ahead 5 (af)]) (fun x => [(2, .int (nI (x.2))), (1, .int (x.1)), (0, .ref q)]) ?_ ((1 <<< ((nI q_z) &&& 31)) - 1, 0) ?_ hP hD hS hl
  · intro x hI ih11 H locs ls hP hD hS hl
    obtain ⟨fo, h⟩ := x
    try dsimp only at hI
    have hP : va_P D vwCl [oq1 q q_ahead q_ways (nI q_z), oqI k q_ahead 5 (af)] H := hP
    have hD : va_D A [oq1 q q_ahead q_ways (nI q_z), oqI k q_ahead 5 (af)] := hD
    have hl : lv_has ls 3 [(2, .int (nI h)), (1, .int fo), (0, .ref q)] := hl
    refine lv_iload_n hx hb dX2_heaviest_11 rfl (lv_at hl 0 rfl) ?_
    refine lv_aload_n hx hb dX2_heaviest_12 rfl (lv_at hl 2 rfl) ?_
    refine va_get (D := D) (ci := 1) (v := .int (nI q_z)) (C := RX2) (T := TX2) (N := 3) hx hb hts hiX2 hown hK hP 0 rfl rfl 2 (Nat.le_of_ble_eq_true rfl) fl24 (fun _ h9 => h9) rfl dX2_heaviest_13 ?_
    refine lv_icmp_ge (tgt := 36) hx hb dX2_heaviest_16 rfl (fun c_1 => ?_) (fun c_1 => ?_)
    · have nc_1 : q_z ≤ h := (nI_leI (a := q_z) (b := h) (by omega) (by omega)).mp c_1
      refine lv_iload_n hx hb dX2_heaviest_36 rfl (lv_at hl 1 rfl) ?_
      exact hs_iret hx hb hr hlocks hK hP hD hS () [0, 1] rfl (hs_upnd rfl) dX2_heaviest_37 (trivial)
    · have nc_1 : ¬ q_z ≤ h := fun hq9 => c_1 ((nI_leI (a := q_z) (b := h) (by omega) (by omega)).mpr hq9)
      refine lv_iload_n hx hb dX2_heaviest_19 rfl (lv_at hl 1 rfl) ?_
      refine lv_aload_n hx hb dX2_heaviest_20 rfl (lv_at hl 2 rfl) ?_
      refine va_get (D := D) (ci := 1) (v := .ref q_ahead) (C := RX2) (T := TX2) (N := 3) hx hb hts hiX2 hown hK hP 0 rfl rfl 0 (Nat.le_of_ble_eq_true rfl) fl9 (fun _ h9 => h9) rfl dX2_heaviest_21 ?_
      refine lv_iload_n hx hb dX2_heaviest_24 rfl (lv_at hl 0 rfl) ?_
      refine va_iald hx hb hK hP 1 0 rfl rfl (vp_in_nI (show h < 5 by omega) (by decide)) dX2_heaviest_25 ?_
      refine lv_iconst (v := (-1)) hx hb dX2_heaviest_26 hki_m1 ?_
      refine lv_ixor hx hb dX2_heaviest_27 ?_
      refine lv_iand hx hb dX2_heaviest_28 ?_
      refine lv_istore_n (lv' := [(1, .int (fo &&& ((af (nI h).toNatClampNeg) ^^^ (-1)))), (2, .int (nI h)), (0, .ref q)]) hx hb dX2_heaviest_29 rfl hl (Nat.le_of_ble_eq_true rfl) rfl (fun ls hl => ?_)
      refine lv_iinc (v := nI (h + 1)) (lv' := [(2, .int (nI (h + 1))), (1, .int (fo &&& ((af (nI h).toNatClampNeg) ^^^ (-1)))), (0, .ref q)]) hx hb dX2_heaviest_30 hl (k := 1) rfl (nI_add (h) 1) (Nat.le_of_ble_eq_true rfl) rfl (fun ls hl => ?_)
      refine lv_goto (tgt := 11) hx hb dX2_heaviest_33 rfl ?_
      exact ih11 (fo &&& ((af (nI h).toNatClampNeg) ^^^ (-1)), h + 1) (by (try dsimp only); first | omega | (refine ⟨?_, ?_⟩ <;> first | omega | assumption)) (by (try dsimp only); omega) _ _ _ hP hD hS (lv_sub hl [0, 1, 2] rfl)
  · (try dsimp only); first | omega | (refine ⟨?_, ?_⟩ <;> first | omega | assumption)

set_option maxHeartbeats 4000000 in
set_option maxRecDepth 100000 in
theorem g_leastBehind (l : Launch) (D : va_G) (k : Nat → ClassId) (sz : Nat) (q : Nat) (q_ahead : Nat) (q_ways : Nat) (q_z : Nat) (pl : Int32) (af : Nat → Int32) (hz : q_z ≤ 5) : MI l yX2_leastBehind wsX2_leastBehind ({ frames := 1, cells := 0, slots := 0, locals := 22 }) D k [.ref q, .int pl] [oq1 q q_ahead q_ways (nI q_z), oqI k q_ahead 5 (af)] sz (fun (r : Int32) (u : Unit) => True) (fun (u : Unit) => [oq1 q q_ahead q_ways (nI q_z), oqI k q_ahead 5 (af)]) := by
  refine Met.ofW (cc := cX2_leastBehind) (maxL := 3) (ret := (some .int)) hpn_X2 rfl ?_
  intro p e s m args below meth c s₁ B hml hv
  obtain ⟨rfl, hsz, hP, hK, hD0, hN⟩ := hv
  have hx := B.exec
  have hb := B.bytes
  have hr := B.returns
  have hlocks := B.notSynchronized
  have hts := atoms_spec (ws := wsX2_leastBehind) B.pre
  have hown := findClass_of_methodNamed B.named
  have hown : s.vm.findClass RX2 = some m.cls := hown
  have hiX2 : ∀ w ∈ u_ws RX2 TX2 3, w ∈ wsX2_leastBehind := fun w9 hw9 => List.mem_cons_of_mem _ (igX2 w9 hw9)
  have fl24 := hts (.fieldLink RX2 24 "HalfScales$Ranks" "size" "I") (List.mem_cons_of_mem _ (hs_inG 1 178 rfl rfl))
  subst hsz
  have hD := hD0.self (sz := s.heap.size)
  generalize hAe : va_A [oq1 q q_ahead q_ways (nI q_z), oqI k q_ahead 5 (af)] s.heap.size = A at hD ⊢
  have hA : ∀ q : Nat, s.heap.size ≤ q → A q := fun q h => by rw [← hAe]; exact Or.inr h
  have hS : va_S A s.heap s.heap [] := va_S.rf
  have hl := lv_entry ([.ref q, .int pl]) (n := 3) (Nat.le_of_ble_eq_true rfl)
  rw [lg_entry_eq]
  generalize (lg_sl ([.ref q, .int pl]) ++ List.replicate (3 - (lg_sl ([.ref q, .int pl])).length) Slot.unset).toArray = ls at hl ⊢
  have hl : lv_has ls 3 [(0, .ref q), (1, .int pl)] := hl
  have hP : va_P D vwCl [oq1 q q_ahead q_ways (nI q_z), oqI k q_ahead 5 (af)] s.heap := hP
  refine lv_iconst (v := 0) hx hb dX2_leastBehind_0 hki_0 ?_
  refine lv_istore_n (lv' := [(2, .int 0), (0, .ref q), (1, .int pl)]) hx hb dX2_leastBehind_1 rfl hl (Nat.le_of_ble_eq_true rfl) rfl (fun ls hl => ?_)
  refine hs_while (σ := Nat) (fun x => x ≤ q_z) (fun x => q_z - x) (fun x => [oq1 q q_ahead q_ways (nI q_z), oqI k q_ahead 5 (af)]) (fun x => [(2, .int (nI (x))), (0, .ref q), (1, .int pl)]) ?_ (0) ?_ hP hD hS hl
  · intro x hI ih2 H locs ls hP hD hS hl
    obtain ⟨h, rfl⟩ : ∃ z, z = x := ⟨_, rfl⟩
    try dsimp only at hI
    have hP : va_P D vwCl [oq1 q q_ahead q_ways (nI q_z), oqI k q_ahead 5 (af)] H := hP
    have hD : va_D A [oq1 q q_ahead q_ways (nI q_z), oqI k q_ahead 5 (af)] := hD
    have hl : lv_has ls 3 [(2, .int (nI h)), (0, .ref q), (1, .int pl)] := hl
    refine lv_iload_n hx hb dX2_leastBehind_2 rfl (lv_at hl 0 rfl) ?_
    refine lv_aload_n hx hb dX2_leastBehind_3 rfl (lv_at hl 1 rfl) ?_
    refine va_get (D := D) (ci := 1) (v := .int (nI q_z)) (C := RX2) (T := TX2) (N := 3) hx hb hts hiX2 hown hK hP 0 rfl rfl 2 (Nat.le_of_ble_eq_true rfl) fl24 (fun _ h9 => h9) rfl dX2_leastBehind_4 ?_
    refine lv_icmp_ge (tgt := 35) hx hb dX2_leastBehind_7 rfl (fun c_1 => ?_) (fun c_1 => ?_)
    · have nc_1 : q_z ≤ h := (nI_leI (a := q_z) (b := h) (by omega) (by omega)).mp c_1
      refine lv_bipush (v := (-4)) hx hb dX2_leastBehind_35 hkb_m4 ?_
      exact hs_iret hx hb hr hlocks hK hP hD hS () [0, 1] rfl (hs_upnd rfl) dX2_leastBehind_37 (trivial)
    · have nc_1 : ¬ q_z ≤ h := fun hq9 => c_1 ((nI_leI (a := q_z) (b := h) (by omega) (by omega)).mpr hq9)
      refine lv_iload_n hx hb dX2_leastBehind_10 rfl (lv_at hl 2 rfl) ?_
      refine lv_iload_n hx hb dX2_leastBehind_11 rfl (lv_at hl 0 rfl) ?_
      refine lv_ishr hx hb dX2_leastBehind_12 ?_
      refine lv_iconst (v := 1) hx hb dX2_leastBehind_13 hki_1 ?_
      refine lv_iand hx hb dX2_leastBehind_14 ?_
      refine lv_if_ne (tgt := 29) hx hb dX2_leastBehind_15 rfl (fun c_2 => ?_) (fun c_2 => ?_)
      · refine lv_iinc (v := nI (h + 1)) (lv' := [(2, .int (nI (h + 1))), (0, .ref q), (1, .int pl)]) hx hb dX2_leastBehind_29 hl (k := 0) rfl (nI_add (h) 1) (Nat.le_of_ble_eq_true rfl) rfl (fun ls hl => ?_)
        refine lv_goto (tgt := 2) hx hb dX2_leastBehind_32 rfl ?_
        exact ih2 (h + 1) (by (try dsimp only); first | omega | (refine ⟨?_, ?_⟩ <;> first | omega | assumption)) (by (try dsimp only); omega) _ _ _ hP hD hS (lv_sub hl [0, 1, 2] rfl)
      · refine lv_aload_n hx hb dX2_leastBehind_18 rfl (lv_at hl 1 rfl) ?_
        refine lv_iload_n hx hb dX2_leastBehind_19 rfl (lv_at hl 0 rfl) ?_
        refine lv_iload_n hx hb dX2_leastBehind_20 rfl (lv_at hl 2 rfl) ?_
        refine hs_ciM (va_runV (As := [.int (nI h), .int pl]) (rest := []) ⟨hx, hb, hml, hown, hts⟩ (g_mayCome l D k _ q q_ahead q_ways q_z h pl af (by omega)) (cwV 2 hts gX2_leastBehind_X2_mayCome rfl rfl rfl ⟨rfl, hq_X2_mayCome⟩ ⟨Nat.le_of_ble_eq_true rfl, Nat.le_of_ble_eq_true rfl⟩) (hs_preV hK hN (hs_subP (w := [_, _]) hP [0, 1] rfl) (hD.sub (ws' := [_, _]) [0, 1] (hs_upnd rfl) rfl) (ci := 1) (q0 := 0) rfl rfl) rfl rfl hl.1 rfl (lv_room (Nat.le_of_ble_eq_true rfl)) dX2_leastBehind_21 ⟨Nat.le_of_ble_eq_true rfl, Nat.le_of_ble_eq_true rfl⟩) hP hD hS hA [false, false] [] [_, _] rfl [0, 1] rfl [0, 1] (fun u_5 => [_, _]) (fun _ => rfl) (hs_upnd rfl) [false, false] (fun u_5 => [_, _]) (fun _ => rfl) (fun r_3 u_5 H locs hw_4 hP hD hS => ?_)
        refine lv_if_eq (tgt := 29) hx hb dX2_leastBehind_24 rfl (fun c_6 => ?_) (fun c_6 => ?_)
        · refine lv_iinc (v := nI (h + 1)) (lv' := [(2, .int (nI (h + 1))), (0, .ref q), (1, .int pl)]) hx hb dX2_leastBehind_29 hl (k := 0) rfl (nI_add (h) 1) (Nat.le_of_ble_eq_true rfl) rfl (fun ls hl => ?_)
          refine lv_goto (tgt := 2) hx hb dX2_leastBehind_32 rfl ?_
          exact ih2 (h + 1) (by (try dsimp only); first | omega | (refine ⟨?_, ?_⟩ <;> first | omega | assumption)) (by (try dsimp only); omega) _ _ _ hP hD hS (lv_sub hl [0, 1, 2] rfl)
        · refine lv_iload_n hx hb dX2_leastBehind_27 rfl (lv_at hl 0 rfl) ?_
          exact hs_iret hx hb hr hlocks hK hP hD hS () [0, 1] rfl (hs_upnd rfl) dX2_leastBehind_28 (trivial)
  · (try dsimp only); first | omega | (refine ⟨?_, ?_⟩ <;> first | omega | assumption)

set_option maxHeartbeats 4000000 in
set_option maxRecDepth 100000 in
theorem g_ofFirst (l : Launch) (D : va_G) (k : Nat → ClassId) (sz : Nat) (q : Nat) (q_ahead : Nat) (q_ways : Nat) (q_z : Nat) (ii : Nat) (af : Nat → Int32) (hz : q_z ≤ 5) (hii : ii < 5) : MI l yX2_ofFirst wsX2_ofFirst ({ frames := 2, cells := 0, slots := 0, locals := 44 }) D k [.ref q, .int (nI ii)] [oq1 q q_ahead q_ways (nI q_z), oqI k q_ahead 5 (af)] sz (fun (r : Int32) (u : Unit) => True) (fun (u : Unit) => [oq1 q q_ahead q_ways (nI q_z), oqI k q_ahead 5 (af)]) := by
  refine Met.ofW (cc := cX2_ofFirst) (maxL := 5) (ret := (some .int)) hpn_X2 rfl ?_
  intro p e s m args below meth c s₁ B hml hv
  obtain ⟨rfl, hsz, hP, hK, hD0, hN⟩ := hv
  have hx := B.exec
  have hb := B.bytes
  have hr := B.returns
  have hlocks := B.notSynchronized
  have hts := atoms_spec (ws := wsX2_ofFirst) B.pre
  have hown := findClass_of_methodNamed B.named
  have hown : s.vm.findClass RX2 = some m.cls := hown
  subst hsz
  have hD := hD0.self (sz := s.heap.size)
  generalize hAe : va_A [oq1 q q_ahead q_ways (nI q_z), oqI k q_ahead 5 (af)] s.heap.size = A at hD ⊢
  have hA : ∀ q : Nat, s.heap.size ≤ q → A q := fun q h => by rw [← hAe]; exact Or.inr h
  have hS : va_S A s.heap s.heap [] := va_S.rf
  have hl := lv_entry ([.ref q, .int (nI ii)]) (n := 5) (Nat.le_of_ble_eq_true rfl)
  rw [lg_entry_eq]
  generalize (lg_sl ([.ref q, .int (nI ii)]) ++ List.replicate (5 - (lg_sl ([.ref q, .int (nI ii)])).length) Slot.unset).toArray = ls at hl ⊢
  have hl : lv_has ls 5 [(0, .ref q), (1, .int (nI ii))] := hl
  have hP : va_P D vwCl [oq1 q q_ahead q_ways (nI q_z), oqI k q_ahead 5 (af)] s.heap := hP
  refine lv_iconst (v := 0) hx hb dX2_ofFirst_0 hki_0 ?_
  refine lv_istore_n (lv' := [(2, .int 0), (0, .ref q), (1, .int (nI ii))]) hx hb dX2_ofFirst_1 rfl hl (Nat.le_of_ble_eq_true rfl) rfl (fun ls hl => ?_)
  refine lv_bipush (v := (-4)) hx hb dX2_ofFirst_2 hkb_m4 ?_
  refine lv_istore_n (lv' := [(3, .int (-4)), (2, .int 0), (0, .ref q), (1, .int (nI ii))]) hx hb dX2_ofFirst_4 rfl hl (Nat.le_of_ble_eq_true rfl) rfl (fun ls hl => ?_)
  refine lv_iconst (v := 0) hx hb dX2_ofFirst_5 hki_0 ?_
  refine lv_istore (lv' := [(4, .int 0), (3, .int (-4)), (2, .int 0), (0, .ref q), (1, .int (nI ii))]) hx hb dX2_ofFirst_6 hl (Nat.le_of_ble_eq_true rfl) rfl (fun ls hl => ?_)
  refine hs_while (σ := Int32 × Int32 × Nat) (fun x => x.2.2 ≤ ii + 1) (fun x => ii + 1 - x.2.2) (fun x => [oq1 q q_ahead q_ways (nI q_z), oqI k q_ahead 5 (af)]) (fun x => [(4, .int (nI (x.2.2))), (3, .int (x.2.1)), (2, .int (x.1)), (0, .ref q), (1, .int (nI ii))]) ?_ (0, (-4), 0) ?_ hP hD hS hl
  · intro x hI ih8 H locs ls hP hD hS hl
    obtain ⟨pl, la, jj⟩ := x
    try dsimp only at hI
    have hP : va_P D vwCl [oq1 q q_ahead q_ways (nI q_z), oqI k q_ahead 5 (af)] H := hP
    have hD : va_D A [oq1 q q_ahead q_ways (nI q_z), oqI k q_ahead 5 (af)] := hD
    have hl : lv_has ls 5 [(4, .int (nI jj)), (3, .int la), (2, .int pl), (0, .ref q), (1, .int (nI ii))] := hl
    refine lv_iload hx hb dX2_ofFirst_8 (lv_at hl 0 rfl) ?_
    refine lv_iload_n hx hb dX2_ofFirst_10 rfl (lv_at hl 4 rfl) ?_
    refine lv_icmp_gt (tgt := 41) hx hb dX2_ofFirst_11 rfl (fun c_1 => ?_) (fun c_1 => ?_)
    · have nc_1 : ii < jj := (nI_ltI (a := ii) (b := jj) (by omega) (by omega)).mp c_1
      refine lv_iload_n hx hb dX2_ofFirst_41 rfl (lv_at hl 1 rfl) ?_
      exact hs_iret hx hb hr hlocks hK hP hD hS () [0, 1] rfl (hs_upnd rfl) dX2_ofFirst_42 (trivial)
    · have nc_1 : ¬ ii < jj := fun hq9 => c_1 ((nI_ltI (a := ii) (b := jj) (by omega) (by omega)).mpr hq9)
      refine lv_aload_n hx hb dX2_ofFirst_14 rfl (lv_at hl 3 rfl) ?_
      refine lv_iload_n hx hb dX2_ofFirst_15 rfl (lv_at hl 2 rfl) ?_
      refine hs_ciM (va_runV (As := [.int pl]) (rest := []) ⟨hx, hb, hml, hown, hts⟩ (g_leastBehind l D k _ q q_ahead q_ways q_z pl af (by omega)) (cwV 1 hts gX2_ofFirst_X2_leastBehind rfl rfl rfl ⟨rfl, hq_X2_leastBehind⟩ ⟨Nat.le_of_ble_eq_true rfl, Nat.le_of_ble_eq_true rfl⟩) (hs_preV hK hN (hs_subP (w := [_, _]) hP [0, 1] rfl) (hD.sub (ws' := [_, _]) [0, 1] (hs_upnd rfl) rfl) (ci := 1) (q0 := 0) rfl rfl) rfl rfl hl.1 rfl (lv_room (Nat.le_of_ble_eq_true rfl)) dX2_ofFirst_16 ⟨Nat.le_of_ble_eq_true rfl, Nat.le_of_ble_eq_true rfl⟩) hP hD hS hA [false, false] [] [_, _] rfl [0, 1] rfl [0, 1] (fun u_4 => [_, _]) (fun _ => rfl) (hs_upnd rfl) [false, false] (fun u_4 => [_, _]) (fun _ => rfl) (fun r_2 u_4 H locs hw_3 hP hD hS => ?_)
      refine lv_istore_n (lv' := [(3, .int r_2), (4, .int (nI jj)), (2, .int pl), (0, .ref q), (1, .int (nI ii))]) hx hb dX2_ofFirst_19 rfl hl (Nat.le_of_ble_eq_true rfl) rfl (fun ls hl => ?_)
      refine lv_iload_n hx hb dX2_ofFirst_20 rfl (lv_at hl 0 rfl) ?_
      refine lv_bipush (v := (-4)) hx hb dX2_ofFirst_21 hkb_m4 ?_
      refine lv_icmp_ne (tgt := 29) hx hb dX2_ofFirst_23 rfl (fun c_5 => ?_) (fun c_5 => ?_)
      · refine lv_iload_n hx hb dX2_ofFirst_29 rfl (lv_at hl 2 rfl) ?_
        refine lv_iconst (v := 1) hx hb dX2_ofFirst_30 hki_1 ?_
        refine lv_iload_n hx hb dX2_ofFirst_31 rfl (lv_at hl 0 rfl) ?_
        refine lv_ishl hx hb dX2_ofFirst_32 ?_
        refine lv_ior hx hb dX2_ofFirst_33 ?_
        refine lv_istore_n (lv' := [(2, .int (pl ||| (1 <<< (r_2 &&& 31)))), (3, .int r_2), (4, .int (nI jj)), (0, .ref q), (1, .int (nI ii))]) hx hb dX2_ofFirst_34 rfl hl (Nat.le_of_ble_eq_true rfl) rfl (fun ls hl => ?_)
        refine lv_iinc (v := nI (jj + 1)) (lv' := [(4, .int (nI (jj + 1))), (2, .int (pl ||| (1 <<< (r_2 &&& 31)))), (3, .int r_2), (0, .ref q), (1, .int (nI ii))]) hx hb dX2_ofFirst_35 hl (k := 2) rfl (nI_add (jj) 1) (Nat.le_of_ble_eq_true rfl) rfl (fun ls hl => ?_)
        refine lv_goto (tgt := 8) hx hb dX2_ofFirst_38 rfl ?_
        exact ih8 (pl ||| (1 <<< (r_2 &&& 31)), r_2, jj + 1) (by (try dsimp only); first | omega | (refine ⟨?_, ?_⟩ <;> first | omega | assumption)) (by (try dsimp only); omega) _ _ _ hP hD hS (lv_sub hl [0, 2, 1, 3, 4] rfl)
      · refine lv_bipush (v := (-4)) hx hb dX2_ofFirst_26 hkb_m4 ?_
        exact hs_iret hx hb hr hlocks hK hP hD hS () [0, 1] rfl (hs_upnd rfl) dX2_ofFirst_28 (trivial)
  · (try dsimp only); first | omega | (refine ⟨?_, ?_⟩ <;> first | omega | assumption)

set_option maxHeartbeats 4000000 in
set_option maxRecDepth 100000 in
theorem g_learn (l : Launch) (D : va_G) (k : Nat → ClassId) (sz : Nat) (q : Nat) (q_ahead : Nat) (q_ways : Nat) (q_z : Nat) (t : Nat) (t_a : Nat → Nat) (t_N : Nat → Nat) (t_J : Nat → Int32) (t_F : Nat → Nat → Int32) (af : Nat → Int32) (hN0 : thN t_N) (hF : thF t_N t_F) : MV l yX2_learn wsX2_learn ({ frames := 0, cells := 0, slots := 0, locals := 0 }) D k [.ref q, .ref t] [oq1 q q_ahead q_ways (nI q_z), oqI k q_ahead 5 (af), oqT t t_a t_N t_J, oqF0 k t_a t_F, oqF1 k t_a t_F, oqF2 k t_a t_F, oqF3 k t_a t_F, oqF4 k t_a t_F, oqF5 k t_a t_F, oqF6 k t_a t_F] sz (fun (u : Nat → Int32) => True) (fun (u : Nat → Int32) => [oq1 q q_ahead q_ways (nI (t_N 2)), oqI k q_ahead 5 (u), oqT t t_a t_N t_J, oqF0 k t_a t_F, oqF1 k t_a t_F, oqF2 k t_a t_F, oqF3 k t_a t_F, oqF4 k t_a t_F, oqF5 k t_a t_F, oqF6 k t_a t_F]) := by
  refine Met.ofW (cc := cX2_learn) (maxL := 3) (ret := none) hpn_X2 rfl ?_
  intro p e s m args below meth c s₁ B hml hv
  obtain ⟨rfl, hsz, hP, hK, hD0, hN⟩ := hv
  have hx := B.exec
  have hb := B.bytes
  have hr := B.returns
  have hlocks := B.notSynchronized
  have hts := atoms_spec (ws := wsX2_learn) B.pre
  have hown := findClass_of_methodNamed B.named
  have hown : s.vm.findClass RX2 = some m.cls := hown
  have hiX2 : ∀ w ∈ u_ws RX2 TX2 3, w ∈ wsX2_learn := fun w9 hw9 => List.mem_cons_of_mem _ (igX2 w9 hw9)
  have hiX6 : ∀ w ∈ u_ws RX6 TX6 15, w ∈ wsX2_learn := fun w9 hw9 => List.mem_cons_of_mem _ (igX6 w9 hw9)
  have fl18 := hts (.fieldLink RX2 18 "HalfScales$Thing" "halfCount" "I") (List.mem_cons_of_mem _ (hs_inG 1 68 rfl rfl))
  have fl24 := hts (.fieldLink RX2 24 "HalfScales$Ranks" "size" "I") (List.mem_cons_of_mem _ (hs_inG 1 178 rfl rfl))
  have fl27 := hts (.fieldLink RX2 27 "HalfScales$Thing" "pairCount" "I") (List.mem_cons_of_mem _ (hs_inG 1 72 rfl rfl))
  have fl9 := hts (.fieldLink RX2 9 "HalfScales$Ranks" "ahead" "[I") (List.mem_cons_of_mem _ (hs_inG 1 176 rfl rfl))
  have fl30 := hts (.fieldLink RX2 30 "HalfScales$Thing" "heavy" "[I") (List.mem_cons_of_mem _ (hs_inG 1 45 rfl rfl))
  have fl33 := hts (.fieldLink RX2 33 "HalfScales$Thing" "light" "[I") (List.mem_cons_of_mem _ (hs_inG 1 41 rfl rfl))
  obtain ⟨I0, I1, ⟨I2, I2b⟩, I3, I4⟩ := hN0
  subst hsz
  have hD := hD0.self (sz := s.heap.size)
  generalize hAe : va_A [oq1 q q_ahead q_ways (nI q_z), oqI k q_ahead 5 (af), oqT t t_a t_N t_J, oqF0 k t_a t_F, oqF1 k t_a t_F, oqF2 k t_a t_F, oqF3 k t_a t_F, oqF4 k t_a t_F, oqF5 k t_a t_F, oqF6 k t_a t_F] s.heap.size = A at hD ⊢
  have hA : ∀ q : Nat, s.heap.size ≤ q → A q := fun q h => by rw [← hAe]; exact Or.inr h
  have hS : va_S A s.heap s.heap [] := va_S.rf
  have hl := lv_entry ([.ref q, .ref t]) (n := 3) (Nat.le_of_ble_eq_true rfl)
  rw [lg_entry_eq]
  generalize (lg_sl ([.ref q, .ref t]) ++ List.replicate (3 - (lg_sl ([.ref q, .ref t])).length) Slot.unset).toArray = ls at hl ⊢
  have hl : lv_has ls 3 [(0, .ref q), (1, .ref t)] := hl
  have hP : va_P D vwCl [oq1 q q_ahead q_ways (nI q_z), oqI k q_ahead 5 (af), oqT t t_a t_N t_J, oqF0 k t_a t_F, oqF1 k t_a t_F, oqF2 k t_a t_F, oqF3 k t_a t_F, oqF4 k t_a t_F, oqF5 k t_a t_F, oqF6 k t_a t_F] s.heap := hP
  refine lv_aload_n hx hb dX2_learn_0 rfl (lv_at hl 0 rfl) ?_
  refine lv_aload_n hx hb dX2_learn_1 rfl (lv_at hl 1 rfl) ?_
  refine va_get (D := D) (ci := 5) (v := .int (nI (t_N 2))) (C := RX6) (T := TX6) (N := 15) hx hb hts hiX6 hown hK hP 2 rfl rfl 12 (Nat.le_of_ble_eq_true rfl) fl18 (fun _ h9 => h9) rfl dX2_learn_2 ?_
  refine va_put (D := D) (ci := 1) (v := .int (nI (t_N 2))) (ty := .int) (C := RX2) (T := TX2) (N := 3) hx hb hts hiX2 tyX2 tyX2_ok nmX2 hown hK hP hD hS 0 rfl rfl 2 (Nat.le_of_ble_eq_true rfl) fl24 (fun _ h9 => h9) rfl (by decide +kernel) rfl rfl (Nat.le_of_ble_eq_true rfl) dX2_learn_5 (fun H locs hP hD hS => ?_)
  have hP : va_P D vwCl [oq1 q q_ahead q_ways (nI (t_N 2)), oqI k q_ahead 5 (af), oqT t t_a t_N t_J, oqF0 k t_a t_F, oqF1 k t_a t_F, oqF2 k t_a t_F, oqF3 k t_a t_F, oqF4 k t_a t_F, oqF5 k t_a t_F, oqF6 k t_a t_F] H := hP
  have hD : va_D A [oq1 q q_ahead q_ways (nI (t_N 2)), oqI k q_ahead 5 (af), oqT t t_a t_N t_J, oqF0 k t_a t_F, oqF1 k t_a t_F, oqF2 k t_a t_F, oqF3 k t_a t_F, oqF4 k t_a t_F, oqF5 k t_a t_F, oqF6 k t_a t_F] := hD
  refine lv_iconst (v := 0) hx hb dX2_learn_8 hki_0 ?_
  refine lv_istore_n (lv' := [(2, .int 0), (0, .ref q), (1, .ref t)]) hx hb dX2_learn_9 rfl hl (Nat.le_of_ble_eq_true rfl) rfl (fun ls hl => ?_)
  refine hs_while (σ := Nat × (Nat → Int32)) (fun x => x.1 ≤ 5) (fun x => 5 - x.1) (fun x => [oq1 q q_ahead q_ways (nI (t_N 2)), oqI k q_ahead 5 ((x.2)), oqT t t_a t_N t_J, oqF0 k t_a t_F, oqF1 k t_a t_F, oqF2 k t_a t_F, oqF3 k t_a t_F, oqF4 k t_a t_F, oqF5 k t_a t_F, oqF6 k t_a t_F]) (fun x => [(2, .int (nI (x.1))), (0, .ref q), (1, .ref t)]) ?_ (0, af) ?_ hP hD hS hl
  · intro x hI ih10 H locs ls hP hD hS hl
    obtain ⟨h, af2⟩ := x
    try dsimp only at hI
    have hP : va_P D vwCl [_, oqI k q_ahead 5 (af2), _, _, _, _, _, _, _, _] H := hP
    have hD : va_D A [_, oqI k q_ahead 5 (af2), _, _, _, _, _, _, _, _] := hD
    have hl : lv_has ls 3 [(2, .int (nI h)), (0, .ref q), (1, .ref t)] := hl
    refine lv_iload_n hx hb dX2_learn_10 rfl (lv_at hl 0 rfl) ?_
    refine lv_iconst (v := 5) hx hb dX2_learn_11 hki_5 ?_
    refine lv_icmp_ge (tgt := 28) hx hb dX2_learn_12 rfl (fun c_1 => ?_) (fun c_1 => ?_)
    · have nc_1 : 5 ≤ h := (nI_leI (a := 5) (b := h) (by omega) (by omega)).mp c_1
      refine lv_iconst (v := 0) hx hb dX2_learn_28 hki_0 ?_
      refine lv_istore_n (lv' := [(2, .int 0), (0, .ref q), (1, .ref t)]) hx hb dX2_learn_29 rfl hl (Nat.le_of_ble_eq_true rfl) rfl (fun ls hl => ?_)
      refine hs_while (σ := Nat × (Nat → Int32)) (fun x => x.1 ≤ t_N 3) (fun x => t_N 3 - x.1) (fun x => [oq1 q q_ahead q_ways (nI (t_N 2)), oqI k q_ahead 5 ((x.2)), oqT t t_a t_N t_J, oqF0 k t_a t_F, oqF1 k t_a t_F, oqF2 k t_a t_F, oqF3 k t_a t_F, oqF4 k t_a t_F, oqF5 k t_a t_F, oqF6 k t_a t_F]) (fun x => [(2, .int (nI (x.1))), (0, .ref q), (1, .ref t)]) ?_ (0, af2) ?_ hP hD hS hl
      · intro x hI ih30 H locs ls hP hD hS hl
        obtain ⟨i, af3⟩ := x
        try dsimp only at hI
        have hP : va_P D vwCl [_, oqI k q_ahead 5 (af3), _, _, _, _, _, _, _, _] H := hP
        have hD : va_D A [_, oqI k q_ahead 5 (af3), _, _, _, _, _, _, _, _] := hD
        have hl : lv_has ls 3 [(2, .int (nI i)), (0, .ref q), (1, .ref t)] := hl
        refine lv_iload_n hx hb dX2_learn_30 rfl (lv_at hl 0 rfl) ?_
        refine lv_aload_n hx hb dX2_learn_31 rfl (lv_at hl 2 rfl) ?_
        refine va_get (D := D) (ci := 5) (v := .int (nI (t_N 3))) (C := RX6) (T := TX6) (N := 15) hx hb hts hiX6 hown hK hP 2 rfl rfl 13 (Nat.le_of_ble_eq_true rfl) fl27 (fun _ h9 => h9) rfl dX2_learn_32 ?_
        refine lv_icmp_ge (tgt := 66) hx hb dX2_learn_35 rfl (fun c_2 => ?_) (fun c_2 => ?_)
        · have nc_2 : (t_N 3) ≤ i := (nI_leI (a := (t_N 3)) (b := i) (by omega) (by omega)).mp c_2
          exact hs_vret hx hb hr hlocks hK hP hD hS af3 [0, 1, 2, 3, 4, 5, 6, 7, 8, 9] rfl (hs_upnd rfl) dX2_learn_66 (trivial)
        · have nc_2 : ¬ (t_N 3) ≤ i := fun hq9 => c_2 ((nI_leI (a := (t_N 3)) (b := i) (by omega) (by omega)).mpr hq9)
          refine lv_aload_n hx hb dX2_learn_38 rfl (lv_at hl 1 rfl) ?_
          refine va_get (D := D) (ci := 1) (v := .ref q_ahead) (C := RX2) (T := TX2) (N := 3) hx hb hts hiX2 hown hK hP 0 rfl rfl 0 (Nat.le_of_ble_eq_true rfl) fl9 (fun _ h9 => h9) rfl dX2_learn_39 ?_
          refine lv_aload_n hx hb dX2_learn_42 rfl (lv_at hl 2 rfl) ?_
          refine va_get (D := D) (ci := 5) (v := .ref (t_a 3)) (C := RX6) (T := TX6) (N := 15) hx hb hts hiX6 hown hK hP 2 rfl rfl 3 (Nat.le_of_ble_eq_true rfl) fl30 (fun _ h9 => h9) rfl dX2_learn_43 ?_
          refine lv_iload_n hx hb dX2_learn_46 rfl (lv_at hl 0 rfl) ?_
          refine va_iald hx hb hK hP 6 0 rfl rfl (vp_in_nI (show i < 8 by omega) (by decide)) dX2_learn_47 ?_
          obtain ⟨jj, hjj, ejj⟩ := vp_in_of (hF.1 (i) (by omega)) (by decide)
          refine hs_topi (nI jj) (by rw [nI_clamp (by omega)]; exact ejj) ?_
          refine lv_dup2_11 hx hb dX2_learn_48 rfl rfl ?_
          refine va_iald hx hb hK hP 1 0 rfl rfl (vp_in_nI (show jj < 5 by omega) (by decide)) dX2_learn_49 ?_
          refine lv_iconst (v := 1) hx hb dX2_learn_50 hki_1 ?_
          refine lv_aload_n hx hb dX2_learn_51 rfl (lv_at hl 2 rfl) ?_
          refine va_get (D := D) (ci := 5) (v := .ref (t_a 2)) (C := RX6) (T := TX6) (N := 15) hx hb hts hiX6 hown hK hP 2 rfl rfl 2 (Nat.le_of_ble_eq_true rfl) fl33 (fun _ h9 => h9) rfl dX2_learn_52 ?_
          refine lv_iload_n hx hb dX2_learn_55 rfl (lv_at hl 0 rfl) ?_
          refine va_iald hx hb hK hP 5 0 rfl rfl (vp_in_nI (show i < 8 by omega) (by decide)) dX2_learn_56 ?_
          refine lv_ishl hx hb dX2_learn_57 ?_
          refine lv_ior hx hb dX2_learn_58 ?_
          refine va_iast hx hb hK hP hD hS 1 0 rfl rfl (vp_in_nI (show jj < 5 by omega) (by decide)) dX2_learn_59 (fun H locs hP hD hS => ?_)
          have hP : va_P D vwCl [_, oqI k q_ahead 5 (upd af3 ((nI jj).toNatClampNeg) ((af3 (nI jj).toNatClampNeg) ||| (1 <<< (((t_F 2) (nI i).toNatClampNeg) &&& 31)))), _, _, _, _, _, _, _, _] H := hP
          have hD : va_D A [_, oqI k q_ahead 5 (upd af3 ((nI jj).toNatClampNeg) ((af3 (nI jj).toNatClampNeg) ||| (1 <<< (((t_F 2) (nI i).toNatClampNeg) &&& 31)))), _, _, _, _, _, _, _, _] := hD
          refine lv_iinc (v := nI (i + 1)) (lv' := [(2, .int (nI (i + 1))), (0, .ref q), (1, .ref t)]) hx hb dX2_learn_60 hl (k := 0) rfl (nI_add (i) 1) (Nat.le_of_ble_eq_true rfl) rfl (fun ls hl => ?_)
          refine lv_goto (tgt := 30) hx hb dX2_learn_63 rfl ?_
          exact ih30 (i + 1, upd af3 ((nI jj).toNatClampNeg) ((af3 (nI jj).toNatClampNeg) ||| (1 <<< (((t_F 2) (nI i).toNatClampNeg) &&& 31)))) (by (try dsimp only); first | omega | (refine ⟨?_, ?_⟩ <;> first | omega | assumption)) (by (try dsimp only); omega) _ _ _ hP hD hS (lv_sub hl [0, 1, 2] rfl)
      · (try dsimp only); first | omega | (refine ⟨?_, ?_⟩ <;> first | omega | assumption)
    · have nc_1 : ¬ 5 ≤ h := fun hq9 => c_1 ((nI_leI (a := 5) (b := h) (by omega) (by omega)).mpr hq9)
      refine lv_aload_n hx hb dX2_learn_15 rfl (lv_at hl 1 rfl) ?_
      refine va_get (D := D) (ci := 1) (v := .ref q_ahead) (C := RX2) (T := TX2) (N := 3) hx hb hts hiX2 hown hK hP 0 rfl rfl 0 (Nat.le_of_ble_eq_true rfl) fl9 (fun _ h9 => h9) rfl dX2_learn_16 ?_
      refine lv_iload_n hx hb dX2_learn_19 rfl (lv_at hl 0 rfl) ?_
      refine lv_iconst (v := 0) hx hb dX2_learn_20 hki_0 ?_
      refine va_iast hx hb hK hP hD hS 1 0 rfl rfl (vp_in_nI (show h < 5 by omega) (by decide)) dX2_learn_21 (fun H locs hP hD hS => ?_)
      have hP : va_P D vwCl [_, oqI k q_ahead 5 (upd af2 ((nI h).toNatClampNeg) 0), _, _, _, _, _, _, _, _] H := hP
      have hD : va_D A [_, oqI k q_ahead 5 (upd af2 ((nI h).toNatClampNeg) 0), _, _, _, _, _, _, _, _] := hD
      refine lv_iinc (v := nI (h + 1)) (lv' := [(2, .int (nI (h + 1))), (0, .ref q), (1, .ref t)]) hx hb dX2_learn_22 hl (k := 0) rfl (nI_add (h) 1) (Nat.le_of_ble_eq_true rfl) rfl (fun ls hl => ?_)
      refine lv_goto (tgt := 10) hx hb dX2_learn_25 rfl ?_
      exact ih10 (h + 1, upd af2 ((nI h).toNatClampNeg) 0) (by (try dsimp only); first | omega | (refine ⟨?_, ?_⟩ <;> first | omega | assumption)) (by (try dsimp only); omega) _ _ _ hP hD hS (lv_sub hl [0, 1, 2] rfl)
  · (try dsimp only); first | omega | (refine ⟨?_, ?_⟩ <;> first | omega | assumption)

set_option maxHeartbeats 4000000 in
set_option maxRecDepth 100000 in
theorem g_saysJust (l : Launch) (D : va_G) (k : Nat → ClassId) (sz : Nat) (v : Int32) (ju : Int32) (q : Int32)  : MI l yX0_saysJust wsX0_saysJust ({ frames := 0, cells := 0, slots := 0, locals := 0 }) D k [.int v, .int ju, .int q] [] sz (fun (r : Int32) (u : Unit) => True) (fun (u : Unit) => []) := by
  refine Met.ofW (cc := cX0_saysJust) (maxL := 3) (ret := (some .int)) hpn_X0 rfl ?_
  intro p e s m args below meth c s₁ B hml hv
  obtain ⟨rfl, hsz, hP, hK, hD0, hN⟩ := hv
  have hx := B.exec
  have hb := B.bytes
  have hr := B.returns
  have hlocks := B.notSynchronized
  have hts := atoms_spec (ws := wsX0_saysJust) B.pre
  have hown := findClass_of_methodNamed B.named
  have hown : s.vm.findClass RX0 = some m.cls := hown
  subst hsz
  have hD := hD0.self (sz := s.heap.size)
  generalize hAe : va_A [] s.heap.size = A at hD ⊢
  have hA : ∀ q : Nat, s.heap.size ≤ q → A q := fun q h => by rw [← hAe]; exact Or.inr h
  have hS : va_S A s.heap s.heap [] := va_S.rf
  have hl := lv_entry ([.int v, .int ju, .int q]) (n := 3) (Nat.le_of_ble_eq_true rfl)
  rw [lg_entry_eq]
  generalize (lg_sl ([.int v, .int ju, .int q]) ++ List.replicate (3 - (lg_sl ([.int v, .int ju, .int q])).length) Slot.unset).toArray = ls at hl ⊢
  have hl : lv_has ls 3 [(0, .int v), (1, .int ju), (2, .int q)] := hl
  have hP : va_P D vwCl [] s.heap := hP
  refine lv_iload_n hx hb dX0_saysJust_0 rfl (lv_at hl 1 rfl) ?_
  refine lv_iload_n hx hb dX0_saysJust_1 rfl (lv_at hl 2 rfl) ?_
  refine lv_ishr hx hb dX0_saysJust_2 ?_
  refine lv_iconst (v := 1) hx hb dX0_saysJust_3 hki_1 ?_
  refine lv_iand hx hb dX0_saysJust_4 ?_
  refine lv_iconst (v := 1) hx hb dX0_saysJust_5 hki_1 ?_
  refine lv_icmp_ne (tgt := 16) hx hb dX0_saysJust_6 rfl (fun c_1 => ?_) (fun c_1 => ?_)
  · refine lv_iload_n hx hb dX0_saysJust_16 rfl (lv_at hl 0 rfl) ?_
    exact hs_iret hx hb hr hlocks hK hP hD hS () [] rfl (hs_upnd rfl) dX0_saysJust_17 (trivial)
  · refine lv_bipush (v := 10) hx hb dX0_saysJust_9 hkb_10 ?_
    refine lv_iload_n hx hb dX0_saysJust_11 rfl (lv_at hl 0 rfl) ?_
    refine lv_isub hx hb dX0_saysJust_12 ?_
    refine lv_goto (tgt := 17) hx hb dX0_saysJust_13 rfl ?_
    exact hs_iret hx hb hr hlocks hK hP hD hS () [] rfl (hs_upnd rfl) dX0_saysJust_17 (trivial)

set_option maxHeartbeats 4000000 in
set_option maxRecDepth 100000 in
theorem g_lowest (l : Launch) (D : va_G) (k : Nat → ClassId) (sz : Nat) (a : Int64) (b : Int64) (w : Int32)  : ML l yX0_lowest wsX0_lowest ({ frames := 0, cells := 0, slots := 0, locals := 0 }) D k [.long a, .long b, .int w] [] sz (fun (r : Int64) (u : Unit) => True) (fun (u : Unit) => []) := by
  refine Met.ofW (cc := cX0_lowest) (maxL := 12) (ret := (some .long)) hpn_X0 rfl ?_
  intro p e s m args below meth c s₁ B hml hv
  obtain ⟨rfl, hsz, hP, hK, hD0, hN⟩ := hv
  have hx := B.exec
  have hb := B.bytes
  have hr := B.returns
  have hlocks := B.notSynchronized
  have hts := atoms_spec (ws := wsX0_lowest) B.pre
  have hown := findClass_of_methodNamed B.named
  have hown : s.vm.findClass RX0 = some m.cls := hown
  have kl25 := hts (.constantLong RX0 25 (-4)) (List.mem_cons_of_mem _ (hs_inG 3 196 rfl rfl))
  subst hsz
  have hD := hD0.self (sz := s.heap.size)
  generalize hAe : va_A [] s.heap.size = A at hD ⊢
  have hA : ∀ q : Nat, s.heap.size ≤ q → A q := fun q h => by rw [← hAe]; exact Or.inr h
  have hS : va_S A s.heap s.heap [] := va_S.rf
  have hl := lv_entry ([.long a, .long b, .int w]) (n := 12) (Nat.le_of_ble_eq_true rfl)
  rw [lg_entry_eq]
  generalize (lg_sl ([.long a, .long b, .int w]) ++ List.replicate (12 - (lg_sl ([.long a, .long b, .int w])).length) Slot.unset).toArray = ls at hl ⊢
  have hl : lv_has ls 12 [(0, .long a), (2, .long b), (4, .int w)] := hl
  have hP : va_P D vwCl [] s.heap := hP
  refine lv_lload_n hx hb dX0_lowest_0 rfl (lv_at hl 1 rfl) ?_
  refine lv_lstore (lv' := [(5, .long b), (0, .long a), (2, .long b), (4, .int w)]) hx hb dX0_lowest_1 hl (Nat.le_of_ble_eq_true rfl) rfl (fun ls hl => ?_)
  refine lv_lload_n hx hb dX0_lowest_3 rfl (lv_at hl 1 rfl) ?_
  refine lv_lstore (lv' := [(7, .long a), (5, .long b), (0, .long a), (2, .long b), (4, .int w)]) hx hb dX0_lowest_4 hl (Nat.le_of_ble_eq_true rfl) rfl (fun ls hl => ?_)
  refine lv_iconst (v := 0) hx hb dX0_lowest_6 hki_0 ?_
  refine lv_istore (lv' := [(9, .int 0), (7, .long a), (5, .long b), (0, .long a), (2, .long b), (4, .int w)]) hx hb dX0_lowest_7 hl (Nat.le_of_ble_eq_true rfl) rfl (fun ls hl => ?_)
  refine hs_while (σ := Int64 × Int64 × Nat) (fun x => x.2.2 ≤ 100) (fun x => 100 - x.2.2) (fun x => []) (fun x => [(9, .int (nI (x.2.2))), (7, .long (x.2.1)), (5, .long (x.1)), (0, .long a), (2, .long b), (4, .int w)]) ?_ (b, a, 0) ?_ hP hD hS hl
  · intro x hI ih9 H locs ls hP hD hS hl
    obtain ⟨co, re, i⟩ := x
    try dsimp only at hI
    have hP : va_P D vwCl [] H := hP
    have hD : va_D A [] := hD
    have hl : lv_has ls 12 [(9, .int (nI i)), (7, .long re), (5, .long co), (0, .long a), (2, .long b), (4, .int w)] := hl
    refine lv_iload hx hb dX0_lowest_9 (lv_at hl 0 rfl) ?_
    refine lv_bipush (v := 100) hx hb dX0_lowest_11 hkb_100 ?_
    refine lv_icmp_ge (tgt := 44) hx hb dX0_lowest_13 rfl (fun c_1 => ?_) (fun c_1 => ?_)
    · have nc_1 : 100 ≤ i := (nI_leI (a := 100) (b := i) (by omega) (by omega)).mp c_1
      refine lv_lload hx hb dX0_lowest_44 (lv_at hl 2 rfl) ?_
      refine lv_lconst (v := 0) hx hb dX0_lowest_46 (by decide) ?_
      refine W.lcmp hx hb dX0_lowest_47 ?_
      refine lv_if_ne (tgt := 55) hx hb dX0_lowest_48 rfl (fun c_2 => ?_) (fun c_2 => ?_)
      · refine lv_iload hx hb dX0_lowest_55 (lv_at hl 5 rfl) ?_
        refine lv_if_ne (tgt := 67) hx hb dX0_lowest_57 rfl (fun c_3 => ?_) (fun c_3 => ?_)
        · refine lv_lload_n hx hb dX0_lowest_67 rfl (lv_at hl 4 rfl) ?_
          refine lv_lload hx hb dX0_lowest_68 (lv_at hl 2 rfl) ?_
          refine lv_ldiv hx hb dX0_lowest_70 (fun h => c_2 ((lg_cmp_eq _ _).mpr h)) ?_
          exact hs_lret hx hb hr hlocks hK hP hD hS () [] rfl (hs_upnd rfl) dX0_lowest_71 (trivial)
        · refine lv_lload_n hx hb dX0_lowest_60 rfl (lv_at hl 3 rfl) ?_
          refine lv_lload hx hb dX0_lowest_61 (lv_at hl 2 rfl) ?_
          refine lv_ldiv hx hb dX0_lowest_63 (fun h => c_2 ((lg_cmp_eq _ _).mpr h)) ?_
          refine lv_goto (tgt := 71) hx hb dX0_lowest_64 rfl ?_
          exact hs_lret hx hb hr hlocks hK hP hD hS () [] rfl (hs_upnd rfl) dX0_lowest_71 (trivial)
      · refine lv_ldc2 hx hb hown kl25 dX0_lowest_51 ?_
        exact hs_lret hx hb hr hlocks hK hP hD hS () [] rfl (hs_upnd rfl) dX0_lowest_54 (trivial)
    · have nc_1 : ¬ 100 ≤ i := fun hq9 => c_1 ((nI_leI (a := 100) (b := i) (by omega) (by omega)).mpr hq9)
      refine lv_lload hx hb dX0_lowest_16 (lv_at hl 1 rfl) ?_
      refine lv_lconst (v := 0) hx hb dX0_lowest_18 (by decide) ?_
      refine W.lcmp hx hb dX0_lowest_19 ?_
      refine lv_if_eq (tgt := 44) hx hb dX0_lowest_20 rfl (fun c_4 => ?_) (fun c_4 => ?_)
      · refine lv_lload hx hb dX0_lowest_44 (lv_at hl 2 rfl) ?_
        refine lv_lconst (v := 0) hx hb dX0_lowest_46 (by decide) ?_
        refine W.lcmp hx hb dX0_lowest_47 ?_
        refine lv_if_ne (tgt := 55) hx hb dX0_lowest_48 rfl (fun c_5 => ?_) (fun c_5 => ?_)
        · refine lv_iload hx hb dX0_lowest_55 (lv_at hl 5 rfl) ?_
          refine lv_if_ne (tgt := 67) hx hb dX0_lowest_57 rfl (fun c_6 => ?_) (fun c_6 => ?_)
          · refine lv_lload_n hx hb dX0_lowest_67 rfl (lv_at hl 4 rfl) ?_
            refine lv_lload hx hb dX0_lowest_68 (lv_at hl 2 rfl) ?_
            refine lv_ldiv hx hb dX0_lowest_70 (fun h => c_5 ((lg_cmp_eq _ _).mpr h)) ?_
            exact hs_lret hx hb hr hlocks hK hP hD hS () [] rfl (hs_upnd rfl) dX0_lowest_71 (trivial)
          · refine lv_lload_n hx hb dX0_lowest_60 rfl (lv_at hl 3 rfl) ?_
            refine lv_lload hx hb dX0_lowest_61 (lv_at hl 2 rfl) ?_
            refine lv_ldiv hx hb dX0_lowest_63 (fun h => c_5 ((lg_cmp_eq _ _).mpr h)) ?_
            refine lv_goto (tgt := 71) hx hb dX0_lowest_64 rfl ?_
            exact hs_lret hx hb hr hlocks hK hP hD hS () [] rfl (hs_upnd rfl) dX0_lowest_71 (trivial)
        · refine lv_ldc2 hx hb hown kl25 dX0_lowest_51 ?_
          exact hs_lret hx hb hr hlocks hK hP hD hS () [] rfl (hs_upnd rfl) dX0_lowest_54 (trivial)
      · refine lv_lload hx hb dX0_lowest_23 (lv_at hl 2 rfl) ?_
        refine lv_lload hx hb dX0_lowest_25 (lv_at hl 1 rfl) ?_
        refine lv_lrem hx hb dX0_lowest_27 (fun h => c_4 ((lg_cmp_eq _ _).mpr h)) ?_
        refine lv_lstore (lv' := [(10, .long (co - co / re * re)), (9, .int (nI i)), (7, .long re), (5, .long co), (0, .long a), (2, .long b), (4, .int w)]) hx hb dX0_lowest_28 hl (Nat.le_of_ble_eq_true rfl) rfl (fun ls hl => ?_)
        refine lv_lload hx hb dX0_lowest_30 (lv_at hl 2 rfl) ?_
        refine lv_lstore (lv' := [(5, .long re), (10, .long (co - co / re * re)), (9, .int (nI i)), (7, .long re), (0, .long a), (2, .long b), (4, .int w)]) hx hb dX0_lowest_32 hl (Nat.le_of_ble_eq_true rfl) rfl (fun ls hl => ?_)
        refine lv_lload hx hb dX0_lowest_34 (lv_at hl 1 rfl) ?_
        refine lv_lstore (lv' := [(7, .long (co - co / re * re)), (5, .long re), (10, .long (co - co / re * re)), (9, .int (nI i)), (0, .long a), (2, .long b), (4, .int w)]) hx hb dX0_lowest_36 hl (Nat.le_of_ble_eq_true rfl) rfl (fun ls hl => ?_)
        refine lv_iinc (v := nI (i + 1)) (lv' := [(9, .int (nI (i + 1))), (7, .long (co - co / re * re)), (5, .long re), (10, .long (co - co / re * re)), (0, .long a), (2, .long b), (4, .int w)]) hx hb dX0_lowest_38 hl (k := 3) rfl (nI_add (i) 1) (Nat.le_of_ble_eq_true rfl) rfl (fun ls hl => ?_)
        refine lv_goto (tgt := 9) hx hb dX0_lowest_41 rfl ?_
        exact ih9 (re, co - co / re * re, i + 1) (by (try dsimp only); first | omega | (refine ⟨?_, ?_⟩ <;> first | omega | assumption)) (by (try dsimp only); omega) _ _ _ hP hD hS (lv_sub hl [0, 1, 2, 4, 5, 6] rfl)
  · (try dsimp only); first | omega | (refine ⟨?_, ?_⟩ <;> first | omega | assumption)

set_option maxHeartbeats 4000000 in
set_option maxRecDepth 100000 in
theorem g_majority (l : Launch) (D : va_G) (k : Nat → ClassId) (sz : Nat) (q : Nat) (q_tell : Nat) (v : Int32) (ju : Int32) (n : Nat) (w : Int32) (tf : Nat → Int64) (hn : n ≤ 4) : ML l yX0_majority wsX0_majority ({ frames := 1, cells := 0, slots := 0, locals := 31 }) D k [.ref q, .int v, .int ju, .int (nI n), .int w] [oq0 q q_tell, oqL k q_tell 5 (tf)] sz (fun (r : Int64) (u : Nat → Int64) => True) (fun (u : Nat → Int64) => [oq0 q q_tell, oqL k q_tell 5 (u)]) := by
  refine Met.ofW (cc := cX0_majority) (maxL := 10) (ret := (some .long)) hpn_X0 rfl ?_
  intro p e s m args below meth c s₁ B hml hv
  obtain ⟨rfl, hsz, hP, hK, hD0, hN⟩ := hv
  have hx := B.exec
  have hb := B.bytes
  have hr := B.returns
  have hlocks := B.notSynchronized
  have hts := atoms_spec (ws := wsX0_majority) B.pre
  have hown := findClass_of_methodNamed B.named
  have hown : s.vm.findClass RX0 = some m.cls := hown
  have hiX0 : ∀ w ∈ u_ws RX0 TX0 1, w ∈ wsX0_majority := fun w9 hw9 => List.mem_cons_of_mem _ (igX0 w9 hw9)
  have fl9 := hts (.fieldLink RX0 9 "HalfScales$Court" "tell" "[J") (List.mem_cons_of_mem _ (hs_inG 1 192 rfl rfl))
  have kl19 := hts (.constantLong RX0 19 (10)) (List.mem_cons_of_mem _ (hs_inG 3 192 rfl rfl))
  subst hsz
  have hD := hD0.self (sz := s.heap.size)
  generalize hAe : va_A [oq0 q q_tell, oqL k q_tell 5 (tf)] s.heap.size = A at hD ⊢
  have hA : ∀ q : Nat, s.heap.size ≤ q → A q := fun q h => by rw [← hAe]; exact Or.inr h
  have hS : va_S A s.heap s.heap [] := va_S.rf
  have hl := lv_entry ([.ref q, .int v, .int ju, .int (nI n), .int w]) (n := 10) (Nat.le_of_ble_eq_true rfl)
  rw [lg_entry_eq]
  generalize (lg_sl ([.ref q, .int v, .int ju, .int (nI n), .int w]) ++ List.replicate (10 - (lg_sl ([.ref q, .int v, .int ju, .int (nI n), .int w])).length) Slot.unset).toArray = ls at hl ⊢
  have hl : lv_has ls 10 [(0, .ref q), (1, .int v), (2, .int ju), (3, .int (nI n)), (4, .int w)] := hl
  have hP : va_P D vwCl [oq0 q q_tell, oqL k q_tell 5 (tf)] s.heap := hP
  refine lv_lconst (v := 1) hx hb dX0_majority_0 (by decide) ?_
  refine lv_lstore (lv' := [(5, .long 1), (0, .ref q), (1, .int v), (2, .int ju), (3, .int (nI n)), (4, .int w)]) hx hb dX0_majority_1 hl (Nat.le_of_ble_eq_true rfl) rfl (fun ls hl => ?_)
  refine lv_aload_n hx hb dX0_majority_3 rfl (lv_at hl 1 rfl) ?_
  refine va_get (D := D) (ci := 0) (v := .ref q_tell) (C := RX0) (T := TX0) (N := 1) hx hb hts hiX0 hown hK hP 0 rfl rfl 0 (Nat.le_of_ble_eq_true rfl) fl9 (fun _ h9 => h9) rfl dX0_majority_4 ?_
  refine lv_iconst (v := 0) hx hb dX0_majority_7 hki_0 ?_
  refine lv_lconst (v := 1) hx hb dX0_majority_8 (by decide) ?_
  refine va_last hx hb hK hP hD hS 1 1 rfl rfl (hs_in (by decide)) dX0_majority_9 (fun H locs hP hD hS => ?_)
  have hP : va_P D vwCl [oq0 q q_tell, oqL k q_tell 5 (vp_updL tf 0 1)] H := hP
  have hD : va_D A [oq0 q q_tell, oqL k q_tell 5 (vp_updL tf 0 1)] := hD
  refine lv_iconst (v := 0) hx hb dX0_majority_10 hki_0 ?_
  refine lv_istore (lv' := [(7, .int 0), (5, .long 1), (0, .ref q), (1, .int v), (2, .int ju), (3, .int (nI n)), (4, .int w)]) hx hb dX0_majority_11 hl (Nat.le_of_ble_eq_true rfl) rfl (fun ls hl => ?_)
  refine hs_while (σ := Int64 × Nat × (Nat → Int64)) (fun x => x.2.1 ≤ n) (fun x => n - x.2.1) (fun x => [oq0 q q_tell, oqL k q_tell 5 ((x.2.2))]) (fun x => [(7, .int (nI (x.2.1))), (5, .long (x.1)), (0, .ref q), (1, .int v), (2, .int ju), (3, .int (nI n)), (4, .int w)]) ?_ (1, 0, vp_updL tf 0 1) ?_ hP hD hS hl
  · intro x hI ih13 H locs ls hP hD hS hl
    obtain ⟨bo, pp, tf2⟩ := x
    try dsimp only at hI
    have hP : va_P D vwCl [_, oqL k q_tell 5 (tf2)] H := hP
    have hD : va_D A [_, oqL k q_tell 5 (tf2)] := hD
    have hl : lv_has ls 10 [(7, .int (nI pp)), (5, .long bo), (0, .ref q), (1, .int v), (2, .int ju), (3, .int (nI n)), (4, .int w)] := hl
    refine lv_iload hx hb dX0_majority_13 (lv_at hl 0 rfl) ?_
    refine lv_iload_n hx hb dX0_majority_15 rfl (lv_at hl 5 rfl) ?_
    refine lv_icmp_ge (tgt := 119) hx hb dX0_majority_16 rfl (fun c_1 => ?_) (fun c_1 => ?_)
    · have nc_1 : n ≤ pp := (nI_leI (a := n) (b := pp) (by omega) (by omega)).mp c_1
      refine lv_lconst (v := 0) hx hb dX0_majority_119 (by decide) ?_
      refine lv_lstore (lv' := [(7, .long 0), (5, .long bo), (0, .ref q), (1, .int v), (2, .int ju), (3, .int (nI n)), (4, .int w)]) hx hb dX0_majority_120 hl (Nat.le_of_ble_eq_true rfl) rfl (fun ls hl => ?_)
      refine lv_iload_n hx hb dX0_majority_122 rfl (lv_at hl 5 rfl) ?_
      refine lv_iconst (v := 2) hx hb dX0_majority_123 hki_2 ?_
      refine lv_idiv hx hb dX0_majority_124 (by decide) ?_
      refine hs_topi (nI (n / 2)) (show nI n / 2 = nI (n / 2) from pk_div (d := 2) (by omega) (by decide) (by decide)) ?_
      refine lv_iconst (v := 1) hx hb dX0_majority_125 hki_1 ?_
      refine lv_iadd hx hb dX0_majority_126 ?_
      refine hs_topi (nI ((n / 2) + 1)) (nI_add ((n / 2)) (1)) ?_
      refine lv_istore (lv' := [(9, .int (nI ((n / 2) + 1))), (7, .long 0), (5, .long bo), (0, .ref q), (1, .int v), (2, .int ju), (3, .int (nI n)), (4, .int w)]) hx hb dX0_majority_127 hl (Nat.le_of_ble_eq_true rfl) rfl (fun ls hl => ?_)
      refine hs_while (σ := Int64 × Nat) (fun x => x.2 ≤ n + 1) (fun x => n + 1 - x.2) (fun x => [oq0 q q_tell, oqL k q_tell 5 (tf2)]) (fun x => [(9, .int (nI (x.2))), (7, .long (x.1)), (5, .long bo), (0, .ref q), (1, .int v), (2, .int ju), (3, .int (nI n)), (4, .int w)]) ?_ (0, (n / 2) + 1) ?_ hP hD hS hl
      · intro x hI ih129 H locs ls hP hD hS hl
        obtain ⟨tp, nn⟩ := x
        try dsimp only at hI
        have hP : va_P D vwCl [_, _] H := hP
        have hD : va_D A [_, _] := hD
        have hl : lv_has ls 10 [(9, .int (nI nn)), (7, .long tp), (5, .long bo), (0, .ref q), (1, .int v), (2, .int ju), (3, .int (nI n)), (4, .int w)] := hl
        refine lv_iload hx hb dX0_majority_129 (lv_at hl 0 rfl) ?_
        refine lv_iload_n hx hb dX0_majority_131 rfl (lv_at hl 6 rfl) ?_
        refine lv_icmp_gt (tgt := 153) hx hb dX0_majority_132 rfl (fun c_2 => ?_) (fun c_2 => ?_)
        · have nc_2 : n < nn := (nI_ltI (a := n) (b := nn) (by omega) (by omega)).mp c_2
          refine lv_lload hx hb dX0_majority_153 (lv_at hl 1 rfl) ?_
          refine lv_lload hx hb dX0_majority_155 (lv_at hl 2 rfl) ?_
          refine lv_iload hx hb dX0_majority_157 (lv_at hl 7 rfl) ?_
          refine hs_pl (va_runS (As := [.long tp, .long bo, .int w]) (rest := []) ⟨hx, hb, hml, hown, hts⟩ (g_lowest l D k _ tp bo w) (va_cwS 3 hts gX0_majority_X0_lowest rfl rfl rfl hq_X0_lowest ⟨Nat.le_of_ble_eq_true rfl, Nat.le_of_ble_eq_true rfl⟩) (hs_preS hK hN (hs_subP (w := []) hP [] rfl) (hD.sub (ws' := []) [] rfl rfl)) rfl rfl hl.1 rfl (lv_room (Nat.le_of_ble_eq_true rfl)) dX0_majority_159 ⟨Nat.le_of_ble_eq_true rfl, Nat.le_of_ble_eq_true rfl⟩) hP hD hS hA (fun r_3 u_5 H locs hw_4 hP hS => ?_)
          exact hs_lret hx hb hr hlocks hK hP hD hS tf2 [0, 1] rfl (hs_upnd rfl) dX0_majority_162 (trivial)
        · have nc_2 : ¬ n < nn := fun hq9 => c_2 ((nI_ltI (a := n) (b := nn) (by omega) (by omega)).mpr hq9)
          refine lv_lload hx hb dX0_majority_135 (lv_at hl 1 rfl) ?_
          refine lv_aload_n hx hb dX0_majority_137 rfl (lv_at hl 3 rfl) ?_
          refine va_get (D := D) (ci := 0) (v := .ref q_tell) (C := RX0) (T := TX0) (N := 1) hx hb hts hiX0 hown hK hP 0 rfl rfl 0 (Nat.le_of_ble_eq_true rfl) fl9 (fun _ h9 => h9) rfl dX0_majority_138 ?_
          refine lv_iload hx hb dX0_majority_141 (lv_at hl 0 rfl) ?_
          refine va_lald hx hb hK hP 1 1 rfl rfl (vp_in_nI (show nn < 5 by omega) (by decide)) dX0_majority_143 ?_
          refine lv_ladd hx hb dX0_majority_144 ?_
          refine lv_lstore (lv' := [(7, .long (tp + (tf2 (nI nn).toNatClampNeg))), (9, .int (nI nn)), (5, .long bo), (0, .ref q), (1, .int v), (2, .int ju), (3, .int (nI n)), (4, .int w)]) hx hb dX0_majority_145 hl (Nat.le_of_ble_eq_true rfl) rfl (fun ls hl => ?_)
          refine lv_iinc (v := nI (nn + 1)) (lv' := [(9, .int (nI (nn + 1))), (7, .long (tp + (tf2 (nI nn).toNatClampNeg))), (5, .long bo), (0, .ref q), (1, .int v), (2, .int ju), (3, .int (nI n)), (4, .int w)]) hx hb dX0_majority_147 hl (k := 1) rfl (nI_add (nn) 1) (Nat.le_of_ble_eq_true rfl) rfl (fun ls hl => ?_)
          refine lv_goto (tgt := 129) hx hb dX0_majority_150 rfl ?_
          exact ih129 (tp + (tf2 (nI nn).toNatClampNeg), nn + 1) (by (try dsimp only); first | omega | (refine ⟨?_, ?_⟩ <;> first | omega | assumption)) (by (try dsimp only); omega) _ _ _ hP hD hS (lv_sub hl [0, 1, 2, 3, 4, 5, 6, 7] rfl)
      · (try dsimp only); first | omega | (refine ⟨?_, ?_⟩ <;> first | omega | assumption)
    · have nc_1 : ¬ n ≤ pp := fun hq9 => c_1 ((nI_leI (a := n) (b := pp) (by omega) (by omega)).mpr hq9)
      refine lv_iload_n hx hb dX0_majority_19 rfl (lv_at hl 3 rfl) ?_
      refine lv_iload_n hx hb dX0_majority_20 rfl (lv_at hl 4 rfl) ?_
      refine lv_iload hx hb dX0_majority_21 (lv_at hl 0 rfl) ?_
      refine hs_pi (va_runS (As := [.int v, .int ju, .int (nI pp)]) (rest := []) ⟨hx, hb, hml, hown, hts⟩ (g_saysJust l D k _ v ju (nI pp)) (va_cwS 3 hts gX0_majority_X0_saysJust rfl rfl rfl hq_X0_saysJust ⟨Nat.le_of_ble_eq_true rfl, Nat.le_of_ble_eq_true rfl⟩) (hs_preS hK hN (hs_subP (w := []) hP [] rfl) (hD.sub (ws' := []) [] rfl rfl)) rfl rfl hl.1 rfl (lv_room (Nat.le_of_ble_eq_true rfl)) dX0_majority_23 ⟨Nat.le_of_ble_eq_true rfl, Nat.le_of_ble_eq_true rfl⟩) hP hD hS hA (fun r_6 u_8 H locs hw_7 hP hS => ?_)
      refine lv_istore (lv' := [(8, .int r_6), (7, .int (nI pp)), (5, .long bo), (0, .ref q), (1, .int v), (2, .int ju), (3, .int (nI n)), (4, .int w)]) hx hb dX0_majority_26 hl (Nat.le_of_ble_eq_true rfl) rfl (fun ls hl => ?_)
      refine lv_aload_n hx hb dX0_majority_28 rfl (lv_at hl 3 rfl) ?_
      refine va_get (D := D) (ci := 0) (v := .ref q_tell) (C := RX0) (T := TX0) (N := 1) hx hb hts hiX0 hown hK hP 0 rfl rfl 0 (Nat.le_of_ble_eq_true rfl) fl9 (fun _ h9 => h9) rfl dX0_majority_29 ?_
      refine lv_iload hx hb dX0_majority_32 (lv_at hl 1 rfl) ?_
      refine lv_iconst (v := 1) hx hb dX0_majority_34 hki_1 ?_
      refine lv_iadd hx hb dX0_majority_35 ?_
      refine hs_topi (nI (pp + 1)) (nI_add (pp) (1)) ?_
      refine lv_lconst (v := 0) hx hb dX0_majority_36 (by decide) ?_
      refine va_last hx hb hK hP hD hS 1 1 rfl rfl (vp_in_nI (show (pp + 1) < 5 by omega) (by decide)) dX0_majority_37 (fun H locs hP hD hS => ?_)
      have hP : va_P D vwCl [_, oqL k q_tell 5 (vp_updL tf2 ((nI (pp + 1)).toNatClampNeg) 0)] H := hP
      have hD : va_D A [_, oqL k q_tell 5 (vp_updL tf2 ((nI (pp + 1)).toNatClampNeg) 0)] := hD
      refine lv_iload hx hb dX0_majority_38 (lv_at hl 1 rfl) ?_
      refine lv_iconst (v := 1) hx hb dX0_majority_40 hki_1 ?_
      refine lv_iadd hx hb dX0_majority_41 ?_
      refine hs_topi (nI (pp + 1)) (nI_add (pp) (1)) ?_
      refine lv_istore (lv' := [(9, .int (nI (pp + 1))), (8, .int r_6), (7, .int (nI pp)), (5, .long bo), (0, .ref q), (1, .int v), (2, .int ju), (3, .int (nI n)), (4, .int w)]) hx hb dX0_majority_42 hl (Nat.le_of_ble_eq_true rfl) rfl (fun ls hl => ?_)
      refine hs_while (σ := Nat × (Nat → Int64)) (fun x => x.1 ≤ pp + 1) (fun x => x.1) (fun x => [oq0 q q_tell, oqL k q_tell 5 ((x.2))]) (fun x => [(9, .int (nI (x.1))), (8, .int r_6), (7, .int (nI pp)), (5, .long bo), (0, .ref q), (1, .int v), (2, .int ju), (3, .int (nI n)), (4, .int w)]) ?_ (pp + 1, vp_updL tf2 ((nI (pp + 1)).toNatClampNeg) 0) ?_ hP hD hS hl
      · intro x hI ih44 H locs ls hP hD hS hl
        obtain ⟨nn, tf3⟩ := x
        try dsimp only at hI
        have hP : va_P D vwCl [_, oqL k q_tell 5 (tf3)] H := hP
        have hD : va_D A [_, oqL k q_tell 5 (tf3)] := hD
        have hl : lv_has ls 10 [(9, .int (nI nn)), (8, .int r_6), (7, .int (nI pp)), (5, .long bo), (0, .ref q), (1, .int v), (2, .int ju), (3, .int (nI n)), (4, .int w)] := hl
        refine lv_iload hx hb dX0_majority_44 (lv_at hl 0 rfl) ?_
        refine lv_if_le (tgt := 90) hx hb dX0_majority_46 rfl (fun c_9 => ?_) (fun c_9 => ?_)
        · have nc_9 : nn ≤ 0 := (nI_leI (a := nn) (b := 0) (by omega) (by omega)).mp c_9
          refine lv_aload_n hx hb dX0_majority_90 rfl (lv_at hl 4 rfl) ?_
          refine va_get (D := D) (ci := 0) (v := .ref q_tell) (C := RX0) (T := TX0) (N := 1) hx hb hts hiX0 hown hK hP 0 rfl rfl 0 (Nat.le_of_ble_eq_true rfl) fl9 (fun _ h9 => h9) rfl dX0_majority_91 ?_
          refine lv_iconst (v := 0) hx hb dX0_majority_94 hki_0 ?_
          refine lv_dup2_11 hx hb dX0_majority_95 rfl rfl ?_
          refine va_lald hx hb hK hP 1 1 rfl rfl (hs_in (by decide)) dX0_majority_96 ?_
          refine lv_bipush (v := 10) hx hb dX0_majority_97 hkb_10 ?_
          refine lv_iload hx hb dX0_majority_99 (lv_at hl 1 rfl) ?_
          refine lv_isub hx hb dX0_majority_101 ?_
          refine lv_i2l hx hb dX0_majority_102 rfl ?_
          refine lv_lmul hx hb dX0_majority_103 ?_
          refine va_last hx hb hK hP hD hS 1 1 rfl rfl (hs_in (by decide)) dX0_majority_104 (fun H locs hP hD hS => ?_)
          have hP : va_P D vwCl [_, oqL k q_tell 5 (vp_updL tf3 0 ((tf3 ((0 : Int32).toNatClampNeg)) * (((10 - r_6) : Int32).toInt64)))] H := hP
          have hD : va_D A [_, oqL k q_tell 5 (vp_updL tf3 0 ((tf3 ((0 : Int32).toNatClampNeg)) * (((10 - r_6) : Int32).toInt64)))] := hD
          refine lv_lload hx hb dX0_majority_105 (lv_at hl 3 rfl) ?_
          refine lv_ldc2 hx hb hown kl19 dX0_majority_107 ?_
          refine lv_lmul hx hb dX0_majority_110 ?_
          refine lv_lstore (lv' := [(5, .long (bo * 10)), (9, .int (nI nn)), (8, .int r_6), (7, .int (nI pp)), (0, .ref q), (1, .int v), (2, .int ju), (3, .int (nI n)), (4, .int w)]) hx hb dX0_majority_111 hl (Nat.le_of_ble_eq_true rfl) rfl (fun ls hl => ?_)
          refine lv_iinc (v := nI (pp + 1)) (lv' := [(7, .int (nI (pp + 1))), (5, .long (bo * 10)), (9, .int (nI nn)), (8, .int r_6), (0, .ref q), (1, .int v), (2, .int ju), (3, .int (nI n)), (4, .int w)]) hx hb dX0_majority_113 hl (k := 3) rfl (nI_add (pp) 1) (Nat.le_of_ble_eq_true rfl) rfl (fun ls hl => ?_)
          refine lv_goto (tgt := 13) hx hb dX0_majority_116 rfl ?_
          exact ih13 (bo * 10, pp + 1, vp_updL tf3 0 ((tf3 ((0 : Int32).toNatClampNeg)) * (((10 - r_6) : Int32).toInt64))) (by (try dsimp only); first | omega | (refine ⟨?_, ?_⟩ <;> first | omega | assumption)) (by (try dsimp only); omega) _ _ _ hP hD hS (lv_sub hl [0, 1, 4, 5, 6, 7, 8] rfl)
        · have nc_9 : ¬ nn ≤ 0 := fun hq9 => c_9 ((nI_leI (a := nn) (b := 0) (by omega) (by omega)).mpr hq9)
          refine lv_aload_n hx hb dX0_majority_49 rfl (lv_at hl 4 rfl) ?_
          refine va_get (D := D) (ci := 0) (v := .ref q_tell) (C := RX0) (T := TX0) (N := 1) hx hb hts hiX0 hown hK hP 0 rfl rfl 0 (Nat.le_of_ble_eq_true rfl) fl9 (fun _ h9 => h9) rfl dX0_majority_50 ?_
          refine lv_iload hx hb dX0_majority_53 (lv_at hl 0 rfl) ?_
          refine lv_aload_n hx hb dX0_majority_55 rfl (lv_at hl 4 rfl) ?_
          refine va_get (D := D) (ci := 0) (v := .ref q_tell) (C := RX0) (T := TX0) (N := 1) hx hb hts hiX0 hown hK hP 0 rfl rfl 0 (Nat.le_of_ble_eq_true rfl) fl9 (fun _ h9 => h9) rfl dX0_majority_56 ?_
          refine lv_iload hx hb dX0_majority_59 (lv_at hl 0 rfl) ?_
          refine va_lald hx hb hK hP 1 1 rfl rfl (vp_in_nI (show nn < 5 by omega) (by decide)) dX0_majority_61 ?_
          refine lv_bipush (v := 10) hx hb dX0_majority_62 hkb_10 ?_
          refine lv_iload hx hb dX0_majority_64 (lv_at hl 1 rfl) ?_
          refine lv_isub hx hb dX0_majority_66 ?_
          refine lv_i2l hx hb dX0_majority_67 rfl ?_
          refine lv_lmul hx hb dX0_majority_68 ?_
          refine lv_aload_n hx hb dX0_majority_69 rfl (lv_at hl 4 rfl) ?_
          refine va_get (D := D) (ci := 0) (v := .ref q_tell) (C := RX0) (T := TX0) (N := 1) hx hb hts hiX0 hown hK hP 0 rfl rfl 0 (Nat.le_of_ble_eq_true rfl) fl9 (fun _ h9 => h9) rfl dX0_majority_70 ?_
          refine lv_iload hx hb dX0_majority_73 (lv_at hl 0 rfl) ?_
          refine lv_iconst (v := 1) hx hb dX0_majority_75 hki_1 ?_
          refine lv_isub hx hb dX0_majority_76 ?_
          refine hs_topi (nI (nn - 1)) (pk_sub (a := nn) (b := 1) (by omega)) ?_
          refine va_lald hx hb hK hP 1 1 rfl rfl (vp_in_nI (show (nn - 1) < 5 by omega) (by decide)) dX0_majority_77 ?_
          refine lv_iload hx hb dX0_majority_78 (lv_at hl 1 rfl) ?_
          refine lv_i2l hx hb dX0_majority_80 rfl ?_
          refine lv_lmul hx hb dX0_majority_81 ?_
          refine lv_ladd hx hb dX0_majority_82 ?_
          refine va_last hx hb hK hP hD hS 1 1 rfl rfl (vp_in_nI (show nn < 5 by omega) (by decide)) dX0_majority_83 (fun H locs hP hD hS => ?_)
          have hP : va_P D vwCl [_, oqL k q_tell 5 (vp_updL tf3 ((nI nn).toNatClampNeg) (((tf3 (nI nn).toNatClampNeg) * (((10 - r_6) : Int32).toInt64)) + ((tf3 (nI (nn - 1)).toNatClampNeg) * (((r_6) : Int32).toInt64))))] H := hP
          have hD : va_D A [_, oqL k q_tell 5 (vp_updL tf3 ((nI nn).toNatClampNeg) (((tf3 (nI nn).toNatClampNeg) * (((10 - r_6) : Int32).toInt64)) + ((tf3 (nI (nn - 1)).toNatClampNeg) * (((r_6) : Int32).toInt64))))] := hD
          refine lv_iinc (v := nI (nn - 1)) (lv' := [(9, .int (nI (nn - 1))), (8, .int r_6), (7, .int (nI pp)), (5, .long bo), (0, .ref q), (1, .int v), (2, .int ju), (3, .int (nI n)), (4, .int w)]) hx hb dX0_majority_84 hl (k := 0) rfl (hs_m1 (n := nn) (by omega)) (Nat.le_of_ble_eq_true rfl) rfl (fun ls hl => ?_)
          refine lv_goto (tgt := 44) hx hb dX0_majority_87 rfl ?_
          exact ih44 (nn - 1, vp_updL tf3 ((nI nn).toNatClampNeg) (((tf3 (nI nn).toNatClampNeg) * (((10 - r_6) : Int32).toInt64)) + ((tf3 (nI (nn - 1)).toNatClampNeg) * (((r_6) : Int32).toInt64)))) (by (try dsimp only); first | omega | (refine ⟨?_, ?_⟩ <;> first | omega | assumption)) (by (try dsimp only); omega) _ _ _ hP hD hS (lv_sub hl [0, 1, 2, 3, 4, 5, 6, 7, 8] rfl)
      · (try dsimp only); first | omega | (refine ⟨?_, ?_⟩ <;> first | omega | assumption)
  · (try dsimp only); first | omega | (refine ⟨?_, ?_⟩ <;> first | omega | assumption)
