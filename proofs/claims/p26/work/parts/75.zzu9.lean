set_option maxHeartbeats 4000000 in
set_option maxRecDepth 100000 in
theorem gf_lightest (l : Launch) (D : va_G) (k : Nat → ClassId) (sz : Nat) (q : Nat) (q_ahead : Nat) (q_ways : Nat) (q_z : Nat) (af : Nat → Int32) (ah : Nat → Nat) (hz : q_z ≤ 5) (hah : ∀ h, h < 5 → (af h = nI (ah h) ∧ ah h < 32)) : MI l yX2_lightest wsX2_lightest ({ frames := 0, cells := 0, slots := 0, locals := 0 }) D k [.ref q] [oq1 q q_ahead q_ways (nI q_z), oqI k q_ahead 5 (af)] sz (fun (r : Int32) (u : Unit) => r = (A_btP (fun h9 => decide (ah h9 = 0))) q_z) (fun (u : Unit) => [oq1 q q_ahead q_ways (nI q_z), oqI k q_ahead 5 (af)]) := by
  refine Met.ofW (cc := cX2_lightest) (maxL := 3) (ret := (some .int)) hpn_X2 rfl ?_
  intro p e s m args below meth c s₁ B hml hv
  obtain ⟨rfl, hsz, hP, hK, hD0, hN⟩ := hv
  have hx := B.exec
  have hb := B.bytes
  have hr := B.returns
  have hlocks := B.notSynchronized
  have hts := atoms_spec (ws := wsX2_lightest) B.pre
  have hown := findClass_of_methodNamed B.named
  have hown : s.vm.findClass RX2 = some m.cls := hown
  have hiX2 : ∀ w ∈ u_ws RX2 TX2 3, w ∈ wsX2_lightest := fun w9 hw9 => List.mem_cons_of_mem _ (igX2 w9 hw9)
  have fl24 := hts (.fieldLink RX2 24 "HalfScales$Ranks" "size" "I") (List.mem_cons_of_mem _ (hs_inG 1 178 rfl rfl))
  have fl9 := hts (.fieldLink RX2 9 "HalfScales$Ranks" "ahead" "[I") (List.mem_cons_of_mem _ (hs_inG 1 176 rfl rfl))
  subst hsz
  have hD := hD0.self (sz := s.heap.size)
  generalize hAe : va_A [oq1 q q_ahead q_ways (nI q_z), oqI k q_ahead 5 (af)] s.heap.size = A at hD ⊢
  have hA : ∀ q : Nat, s.heap.size ≤ q → A q := fun q h => by rw [← hAe]; exact Or.inr h
  have hS : va_S A s.heap s.heap [] := va_S.rf
  have hl := lv_entry ([.ref q]) (n := 3) (Nat.le_of_ble_eq_true rfl)
  rw [lg_entry_eq]
  generalize (lg_sl ([.ref q]) ++ List.replicate (3 - (lg_sl ([.ref q])).length) Slot.unset).toArray = ls at hl ⊢
  have hl : lv_has ls 3 [(0, .ref q)] := hl
  have hP : va_P D vwCl [oq1 q q_ahead q_ways (nI q_z), oqI k q_ahead 5 (af)] s.heap := hP
  refine lv_iconst (v := 0) hx hb dX2_lightest_0 hki_0 ?_
  refine lv_istore_n (lv' := [(1, .int 0), (0, .ref q)]) hx hb dX2_lightest_1 rfl hl (Nat.le_of_ble_eq_true rfl) rfl (fun ls hl => ?_)
  refine lv_iconst (v := 0) hx hb dX2_lightest_2 hki_0 ?_
  refine lv_istore_n (lv' := [(2, .int 0), (1, .int 0), (0, .ref q)]) hx hb dX2_lightest_3 rfl hl (Nat.le_of_ble_eq_true rfl) rfl (fun ls hl => ?_)
  refine hs_while (σ := Int32 × Nat) (fun x => x.2 ≤ q_z ∧ x.1 = (A_btP (fun h9 => decide (ah h9 = 0))) x.2) (fun x => q_z - x.2) (fun x => [oq1 q q_ahead q_ways (nI q_z), oqI k q_ahead 5 (af)]) (fun x => [(2, .int (nI (x.2))), (1, .int (x.1)), (0, .ref q)]) ?_ (0, 0) ?_ hP hD hS hl
  · intro x hI ih4 H locs ls hP hD hS hl
    obtain ⟨fo, h⟩ := x
    try dsimp only at hI
    have hP : va_P D vwCl [oq1 q q_ahead q_ways (nI q_z), oqI k q_ahead 5 (af)] H := hP
    have hD : va_D A [oq1 q q_ahead q_ways (nI q_z), oqI k q_ahead 5 (af)] := hD
    have hl : lv_has ls 3 [(2, .int (nI h)), (1, .int fo), (0, .ref q)] := hl
    refine lv_iload_n hx hb dX2_lightest_4 rfl (lv_at hl 0 rfl) ?_
    refine lv_aload_n hx hb dX2_lightest_5 rfl (lv_at hl 2 rfl) ?_
    refine va_get (D := D) (ci := 1) (v := .int (nI q_z)) (C := RX2) (T := TX2) (N := 3) hx hb hts hiX2 hown hK hP 0 rfl rfl 2 (Nat.le_of_ble_eq_true rfl) fl24 (fun _ h9 => h9) rfl dX2_lightest_6 ?_
    refine lv_icmp_ge (tgt := 33) hx hb dX2_lightest_9 rfl (fun c_1 => ?_) (fun c_1 => ?_)
    · have nc_1 : q_z ≤ h := (nI_leI (a := q_z) (b := h) (by omega) (by omega)).mp c_1
      refine lv_iload_n hx hb dX2_lightest_33 rfl (lv_at hl 1 rfl) ?_
      exact hs_iret hx hb hr hlocks hK hP hD hS () [0, 1] rfl (hs_upnd rfl) dX2_lightest_34 (by rw [hI.2, show h = q_z by omega])
    · have nc_1 : ¬ q_z ≤ h := fun hq9 => c_1 ((nI_leI (a := q_z) (b := h) (by omega) (by omega)).mpr hq9)
      refine lv_aload_n hx hb dX2_lightest_12 rfl (lv_at hl 2 rfl) ?_
      refine va_get (D := D) (ci := 1) (v := .ref q_ahead) (C := RX2) (T := TX2) (N := 3) hx hb hts hiX2 hown hK hP 0 rfl rfl 0 (Nat.le_of_ble_eq_true rfl) fl9 (fun _ h9 => h9) rfl dX2_lightest_13 ?_
      refine lv_iload_n hx hb dX2_lightest_16 rfl (lv_at hl 0 rfl) ?_
      refine va_iald hx hb hK hP 1 0 rfl rfl (vp_in_nI (show h < 5 by omega) (by decide)) dX2_lightest_17 ?_
      have hq9 := (hah h (by omega)).2
      refine hs_topi (nI (ah h)) (by rw [nI_clamp (by omega)]; exact (hah h (by omega)).1) ?_
      refine lv_if_ne (tgt := 27) hx hb dX2_lightest_18 rfl (fun c_2 => ?_) (fun c_2 => ?_)
      · have nc_2 : ¬ (ah h) = 0 := fun hq9 => c_2 ((nI_eq (a := (ah h)) (b := 0) (by omega) (by omega)).mpr hq9)
        refine lv_iinc (v := nI (h + 1)) (lv' := [(2, .int (nI (h + 1))), (1, .int fo), (0, .ref q)]) hx hb dX2_lightest_27 hl (k := 0) rfl (nI_add (h) 1) (Nat.le_of_ble_eq_true rfl) rfl (fun ls hl => ?_)
        refine lv_goto (tgt := 4) hx hb dX2_lightest_30 rfl ?_
        exact ih4 (fo, h + 1) (by (try dsimp only); exact ⟨by omega, by rw [A_btP, if_neg (show ¬ decide (ah h = 0) = true by rw [decide_eq_true_eq]; exact nc_2), hI.2]⟩) (by (try dsimp only); omega) _ _ _ hP hD hS (lv_sub hl [0, 1, 2] rfl)
      · have nc_2 : (ah h) = 0 := (nI_eq (a := (ah h)) (b := 0) (by omega) (by omega)).mp c_2
        refine lv_iload_n hx hb dX2_lightest_21 rfl (lv_at hl 1 rfl) ?_
        refine lv_iconst (v := 1) hx hb dX2_lightest_22 hki_1 ?_
        refine lv_iload_n hx hb dX2_lightest_23 rfl (lv_at hl 0 rfl) ?_
        refine lv_ishl hx hb dX2_lightest_24 ?_
        refine lv_ior hx hb dX2_lightest_25 ?_
        refine lv_istore_n (lv' := [(1, .int (fo ||| (1 <<< ((nI h) &&& 31)))), (2, .int (nI h)), (0, .ref q)]) hx hb dX2_lightest_26 rfl hl (Nat.le_of_ble_eq_true rfl) rfl (fun ls hl => ?_)
        refine lv_iinc (v := nI (h + 1)) (lv' := [(2, .int (nI (h + 1))), (1, .int (fo ||| (1 <<< ((nI h) &&& 31)))), (0, .ref q)]) hx hb dX2_lightest_27 hl (k := 1) rfl (nI_add (h) 1) (Nat.le_of_ble_eq_true rfl) rfl (fun ls hl => ?_)
        refine lv_goto (tgt := 4) hx hb dX2_lightest_30 rfl ?_
        exact ih4 (fo ||| (1 <<< ((nI h) &&& 31)), h + 1) (by (try dsimp only); exact ⟨by omega, by rw [A_btP, if_pos (show decide (ah h = 0) = true by rw [decide_eq_true_eq]; exact nc_2), hI.2]⟩) (by (try dsimp only); omega) _ _ _ hP hD hS (lv_sub hl [0, 1, 2] rfl)
  · (try dsimp only); exact ⟨Nat.zero_le _, rfl⟩

set_option maxHeartbeats 4000000 in
set_option maxRecDepth 100000 in
theorem gf_heaviest (l : Launch) (D : va_G) (k : Nat → ClassId) (sz : Nat) (q : Nat) (q_ahead : Nat) (q_ways : Nat) (q_z : Nat) (af : Nat → Int32) (ah : Nat → Nat) (hz : q_z ≤ 5) (hah : ∀ h, h < 5 → (af h = nI (ah h) ∧ ah h < 32)) : MI l yX2_heaviest wsX2_heaviest ({ frames := 0, cells := 0, slots := 0, locals := 0 }) D k [.ref q] [oq1 q q_ahead q_ways (nI q_z), oqI k q_ahead 5 (af)] sz (fun (r : Int32) (u : Unit) => r = A_hv ah q_z q_z) (fun (u : Unit) => [oq1 q q_ahead q_ways (nI q_z), oqI k q_ahead 5 (af)]) := by
  refine Met.ofW (cc := cX2_heaviest) (maxL := 3) (ret := (some .int)) hpn_X2 rfl ?_
  intro p e s m args below meth c s₁ B hml hv
  obtain ⟨rfl, hsz, hP, hK, hD0, hN⟩ := hv
  have hx := B.exec
  have hb := B.bytes
  have hr := B.returns
  have hlocks := B.notSynchronized
  have hts := atoms_spec (ws := wsX2_heaviest) B.pre
  have hown := findClass_of_methodNamed B.named
  have hown : s.vm.findClass RX2 = some m.cls := hown
  have hiX2 : ∀ w ∈ u_ws RX2 TX2 3, w ∈ wsX2_heaviest := fun w9 hw9 => List.mem_cons_of_mem _ (igX2 w9 hw9)
  have fl24 := hts (.fieldLink RX2 24 "HalfScales$Ranks" "size" "I") (List.mem_cons_of_mem _ (hs_inG 1 178 rfl rfl))
  have fl9 := hts (.fieldLink RX2 9 "HalfScales$Ranks" "ahead" "[I") (List.mem_cons_of_mem _ (hs_inG 1 176 rfl rfl))
  have hp1 : 1 ≤ 2 ^ q_z := Nat.one_le_two_pow
  subst hsz
  have hD := hD0.self (sz := s.heap.size)
  generalize hAe : va_A [oq1 q q_ahead q_ways (nI q_z), oqI k q_ahead 5 (af)] s.heap.size = A at hD ⊢
  have hA : ∀ q : Nat, s.heap.size ≤ q → A q := fun q h => by rw [← hAe]; exact Or.inr h
  have hS : va_S A s.heap s.heap [] := va_S.rf
  have hl := lv_entry ([.ref q]) (n := 3) (Nat.le_of_ble_eq_true rfl)
  rw [lg_entry_eq]
  generalize (lg_sl ([.ref q]) ++ List.replicate (3 - (lg_sl ([.ref q])).length) Slot.unset).toArray = ls at hl ⊢
  have hl : lv_has ls 3 [(0, .ref q)] := hl
  have hP : va_P D vwCl [oq1 q q_ahead q_ways (nI q_z), oqI k q_ahead 5 (af)] s.heap := hP
  refine lv_iconst (v := 1) hx hb dX2_heaviest_0 hki_1 ?_
  refine lv_aload_n hx hb dX2_heaviest_1 rfl (lv_at hl 0 rfl) ?_
  refine va_get (D := D) (ci := 1) (v := .int (nI q_z)) (C := RX2) (T := TX2) (N := 3) hx hb hts hiX2 hown hK hP 0 rfl rfl 2 (Nat.le_of_ble_eq_true rfl) fl24 (fun _ h9 => h9) rfl dX2_heaviest_2 ?_
  refine lv_ishl hx hb dX2_heaviest_5 ?_
  refine hs_topi (nI (2 ^ q_z)) (hs_shl (by omega)) ?_
  refine lv_iconst (v := 1) hx hb dX2_heaviest_6 hki_1 ?_
  refine lv_isub hx hb dX2_heaviest_7 ?_
  refine hs_topi (nI ((2 ^ q_z) - 1)) (pk_sub (a := (2 ^ q_z)) (b := 1) (by omega)) ?_
  refine lv_istore_n (lv' := [(1, .int (nI ((2 ^ q_z) - 1))), (0, .ref q)]) hx hb dX2_heaviest_8 rfl hl (Nat.le_of_ble_eq_true rfl) rfl (fun ls hl => ?_)
  refine lv_iconst (v := 0) hx hb dX2_heaviest_9 hki_0 ?_
  refine lv_istore_n (lv' := [(2, .int 0), (1, .int (nI ((2 ^ q_z) - 1))), (0, .ref q)]) hx hb dX2_heaviest_10 rfl hl (Nat.le_of_ble_eq_true rfl) rfl (fun ls hl => ?_)
  refine hs_while (σ := Int32 × Nat) (fun x => x.2 ≤ q_z ∧ x.1 = A_hv ah q_z x.2) (fun x => q_z - x.2) (fun x => [oq1 q q_ahead q_ways (nI q_z), oqI k q_ahead 5 (af)]) (fun x => [(2, .int (nI (x.2))), (1, .int (x.1)), (0, .ref q)]) ?_ (nI ((2 ^ q_z) - 1), 0) ?_ hP hD hS hl
  · intro x hI ih11 H locs ls hP hD hS hl
    obtain ⟨fo, h⟩ := x
    try dsimp only at hI
    have hP : va_P D vwCl [oq1 q q_ahead q_ways (nI q_z), oqI k q_ahead 5 (af)] H := hP
    have hD : va_D A [oq1 q q_ahead q_ways (nI q_z), oqI k q_ahead 5 (af)] := hD
    have hl : lv_has ls 3 [(2, .int (nI h)), (1, .int fo), (0, .ref q)] := hl
    refine lv_iload_n hx hb dX2_heaviest_11 rfl (lv_at hl 0 rfl) ?_
    refine lv_aload_n hx hb dX2_heaviest_12 rfl (lv_at hl 2 rfl) ?_
    refine va_get (D := D) (ci := 1) (v := .int (nI q_z)) (C := RX2) (T := TX2) (N := 3) hx hb hts hiX2 hown hK hP 0 rfl rfl 2 (Nat.le_of_ble_eq_true rfl) fl24 (fun _ h9 => h9) rfl dX2_heaviest_13 ?_
    refine lv_icmp_ge (tgt := 36) hx hb dX2_heaviest_16 rfl (fun c_1 => ?_) (fun c_1 => ?_)
    · have nc_1 : q_z ≤ h := (nI_leI (a := q_z) (b := h) (by omega) (by omega)).mp c_1
      refine lv_iload_n hx hb dX2_heaviest_36 rfl (lv_at hl 1 rfl) ?_
      exact hs_iret hx hb hr hlocks hK hP hD hS () [0, 1] rfl (hs_upnd rfl) dX2_heaviest_37 (by rw [hI.2, show h = q_z by omega])
    · have nc_1 : ¬ q_z ≤ h := fun hq9 => c_1 ((nI_leI (a := q_z) (b := h) (by omega) (by omega)).mpr hq9)
      refine lv_iload_n hx hb dX2_heaviest_19 rfl (lv_at hl 1 rfl) ?_
      refine lv_aload_n hx hb dX2_heaviest_20 rfl (lv_at hl 2 rfl) ?_
      refine va_get (D := D) (ci := 1) (v := .ref q_ahead) (C := RX2) (T := TX2) (N := 3) hx hb hts hiX2 hown hK hP 0 rfl rfl 0 (Nat.le_of_ble_eq_true rfl) fl9 (fun _ h9 => h9) rfl dX2_heaviest_21 ?_
      refine lv_iload_n hx hb dX2_heaviest_24 rfl (lv_at hl 0 rfl) ?_
      refine va_iald hx hb hK hP 1 0 rfl rfl (vp_in_nI (show h < 5 by omega) (by decide)) dX2_heaviest_25 ?_
      have hq9 := (hah h (by omega)).2
      refine hs_topi (nI (ah h)) (by rw [nI_clamp (by omega)]; exact (hah h (by omega)).1) ?_
      refine lv_iconst (v := (-1)) hx hb dX2_heaviest_26 hki_m1 ?_
      refine lv_ixor hx hb dX2_heaviest_27 ?_
      refine lv_iand hx hb dX2_heaviest_28 ?_
      refine lv_istore_n (lv' := [(1, .int (fo &&& ((nI (ah h)) ^^^ (-1)))), (2, .int (nI h)), (0, .ref q)]) hx hb dX2_heaviest_29 rfl hl (Nat.le_of_ble_eq_true rfl) rfl (fun ls hl => ?_)
      refine lv_iinc (v := nI (h + 1)) (lv' := [(2, .int (nI (h + 1))), (1, .int (fo &&& ((nI (ah h)) ^^^ (-1)))), (0, .ref q)]) hx hb dX2_heaviest_30 hl (k := 1) rfl (nI_add (h) 1) (Nat.le_of_ble_eq_true rfl) rfl (fun ls hl => ?_)
      refine lv_goto (tgt := 11) hx hb dX2_heaviest_33 rfl ?_
      exact ih11 (fo &&& ((nI (ah h)) ^^^ (-1)), h + 1) (by (try dsimp only); exact ⟨by omega, by rw [hI.2]; (try rfl)⟩) (by (try dsimp only); omega) _ _ _ hP hD hS (lv_sub hl [0, 1, 2] rfl)
  · (try dsimp only); exact ⟨Nat.zero_le _, rfl⟩

set_option maxHeartbeats 4000000 in
set_option maxRecDepth 100000 in
theorem gf_leastBehind (l : Launch) (D : va_G) (k : Nat → ClassId) (sz : Nat) (q : Nat) (q_ahead : Nat) (q_ways : Nat) (q_z : Nat) (S : Nat) (af : Nat → Int32) (ah : Nat → Nat) (hz : q_z ≤ 5) (hS5 : S < 32) (hah : ∀ h, h < 5 → (af h = nI (ah h) ∧ ah h < 32)) : MI l yX2_leastBehind wsX2_leastBehind ({ frames := 1, cells := 0, slots := 0, locals := 22 }) D k [.ref q, .int (nI S)] [oq1 q q_ahead q_ways (nI q_z), oqI k q_ahead 5 (af)] sz (fun (r : Int32) (u : Unit) => r = (if lbF (avB ah S) q_z < q_z then nI (lbF (avB ah S) q_z) else -4)) (fun (u : Unit) => [oq1 q q_ahead q_ways (nI q_z), oqI k q_ahead 5 (af)]) := by
  refine Met.ofW (cc := cX2_leastBehind) (maxL := 3) (ret := (some .int)) hpn_X2 rfl ?_
  intro p e s m args below meth c s₁ B hml hv
  obtain ⟨rfl, hsz, hP, hK, hD0, hN⟩ := hv
  have hx := B.exec
  have hb := B.bytes
  have hr := B.returns
  have hlocks := B.notSynchronized
  have hts := atoms_spec (ws := wsX2_leastBehind) B.pre
  have hown := findClass_of_methodNamed B.named
  have hown : s.vm.findClass RX2 = some m.cls := hown
  have hiX2 : ∀ w ∈ u_ws RX2 TX2 3, w ∈ wsX2_leastBehind := fun w9 hw9 => List.mem_cons_of_mem _ (igX2 w9 hw9)
  have fl24 := hts (.fieldLink RX2 24 "HalfScales$Ranks" "size" "I") (List.mem_cons_of_mem _ (hs_inG 1 178 rfl rfl))
  subst hsz
  have hD := hD0.self (sz := s.heap.size)
  generalize hAe : va_A [oq1 q q_ahead q_ways (nI q_z), oqI k q_ahead 5 (af)] s.heap.size = A at hD ⊢
  have hA : ∀ q : Nat, s.heap.size ≤ q → A q := fun q h => by rw [← hAe]; exact Or.inr h
  have hS : va_S A s.heap s.heap [] := va_S.rf
  have hl := lv_entry ([.ref q, .int (nI S)]) (n := 3) (Nat.le_of_ble_eq_true rfl)
  rw [lg_entry_eq]
  generalize (lg_sl ([.ref q, .int (nI S)]) ++ List.replicate (3 - (lg_sl ([.ref q, .int (nI S)])).length) Slot.unset).toArray = ls at hl ⊢
  have hl : lv_has ls 3 [(0, .ref q), (1, .int (nI S))] := hl
  have hP : va_P D vwCl [oq1 q q_ahead q_ways (nI q_z), oqI k q_ahead 5 (af)] s.heap := hP
  refine lv_iconst (v := 0) hx hb dX2_leastBehind_0 hki_0 ?_
  refine lv_istore_n (lv' := [(2, .int 0), (0, .ref q), (1, .int (nI S))]) hx hb dX2_leastBehind_1 rfl hl (Nat.le_of_ble_eq_true rfl) rfl (fun ls hl => ?_)
  refine hs_while (σ := Nat) (fun x => x ≤ q_z ∧ lbF (avB ah S) x = x) (fun x => q_z - x) (fun x => [oq1 q q_ahead q_ways (nI q_z), oqI k q_ahead 5 (af)]) (fun x => [(2, .int (nI (x))), (0, .ref q), (1, .int (nI S))]) ?_ (0) ?_ hP hD hS hl
  · intro x hI ih2 H locs ls hP hD hS hl
    obtain ⟨h, rfl⟩ : ∃ z, z = x := ⟨_, rfl⟩
    try dsimp only at hI
    have hP : va_P D vwCl [oq1 q q_ahead q_ways (nI q_z), oqI k q_ahead 5 (af)] H := hP
    have hD : va_D A [oq1 q q_ahead q_ways (nI q_z), oqI k q_ahead 5 (af)] := hD
    have hl : lv_has ls 3 [(2, .int (nI h)), (0, .ref q), (1, .int (nI S))] := hl
    refine lv_iload_n hx hb dX2_leastBehind_2 rfl (lv_at hl 0 rfl) ?_
    refine lv_aload_n hx hb dX2_leastBehind_3 rfl (lv_at hl 1 rfl) ?_
    refine va_get (D := D) (ci := 1) (v := .int (nI q_z)) (C := RX2) (T := TX2) (N := 3) hx hb hts hiX2 hown hK hP 0 rfl rfl 2 (Nat.le_of_ble_eq_true rfl) fl24 (fun _ h9 => h9) rfl dX2_leastBehind_4 ?_
    refine lv_icmp_ge (tgt := 35) hx hb dX2_leastBehind_7 rfl (fun c_1 => ?_) (fun c_1 => ?_)
    · have nc_1 : q_z ≤ h := (nI_leI (a := q_z) (b := h) (by omega) (by omega)).mp c_1
      refine lv_bipush (v := (-4)) hx hb dX2_leastBehind_35 hkb_m4 ?_
      exact hs_iret hx hb hr hlocks hK hP hD hS () [0, 1] rfl (hs_upnd rfl) dX2_leastBehind_37 ((by rw [if_neg (by rw [show q_z = h by omega, hI.2]; exact Nat.lt_irrefl h)]))
    · have nc_1 : ¬ q_z ≤ h := fun hq9 => c_1 ((nI_leI (a := q_z) (b := h) (by omega) (by omega)).mpr hq9)
      refine lv_iload_n hx hb dX2_leastBehind_10 rfl (lv_at hl 2 rfl) ?_
      refine lv_iload_n hx hb dX2_leastBehind_11 rfl (lv_at hl 0 rfl) ?_
      refine lv_ishr hx hb dX2_leastBehind_12 ?_
      refine lv_iconst (v := 1) hx hb dX2_leastBehind_13 hki_1 ?_
      refine lv_iand hx hb dX2_leastBehind_14 ?_
      refine lv_if_ne (tgt := 29) hx hb dX2_leastBehind_15 rfl (fun c_2 => ?_) (fun c_2 => ?_)
      · refine lv_iinc (v := nI (h + 1)) (lv' := [(2, .int (nI (h + 1))), (0, .ref q), (1, .int (nI S))]) hx hb dX2_leastBehind_29 hl (k := 0) rfl (nI_add (h) 1) (Nat.le_of_ble_eq_true rfl) rfl (fun ls hl => ?_)
        refine lv_goto (tgt := 2) hx hb dX2_leastBehind_32 rfl ?_
        exact ih2 (h + 1) (by (try dsimp only); exact ⟨by omega, lbF_no hI.2 (avB_f1 (fun z9 => c_2 ((hs_tb5 S (by omega) h (by omega)).mpr z9)))⟩) (by (try dsimp only); omega) _ _ _ hP hD hS (lv_sub hl [0, 1, 2] rfl)
      · refine lv_aload_n hx hb dX2_leastBehind_18 rfl (lv_at hl 1 rfl) ?_
        refine lv_iload_n hx hb dX2_leastBehind_19 rfl (lv_at hl 0 rfl) ?_
        refine lv_iload_n hx hb dX2_leastBehind_20 rfl (lv_at hl 2 rfl) ?_
        refine hs_ciM (va_runV (As := [.int (nI h), .int (nI S)]) (rest := []) ⟨hx, hb, hml, hown, hts⟩ (gf_mayCome l D k _ q q_ahead q_ways q_z h S af ah (by omega) (by omega) hah) (cwV 2 hts gX2_leastBehind_X2_mayCome rfl rfl rfl ⟨rfl, hq_X2_mayCome⟩ ⟨Nat.le_of_ble_eq_true rfl, Nat.le_of_ble_eq_true rfl⟩) (hs_preV hK hN (hs_subP (w := [_, _]) hP [0, 1] rfl) (hD.sub (ws' := [_, _]) [0, 1] (hs_upnd rfl) rfl) (ci := 1) (q0 := 0) rfl rfl) rfl rfl hl.1 rfl (lv_room (Nat.le_of_ble_eq_true rfl)) dX2_leastBehind_21 ⟨Nat.le_of_ble_eq_true rfl, Nat.le_of_ble_eq_true rfl⟩) hP hD hS hA [false, false] [] [_, _] rfl [0, 1] rfl [0, 1] (fun u_5 => [_, _]) (fun _ => rfl) (hs_upnd rfl) [false, false] (fun u_5 => [_, _]) (fun _ => rfl) (fun r_3 u_5 H locs hw_4 hP hD hS => ?_)
        refine hs_topi (hsb (hmc ah h S)) hw_4 ?_
        refine lv_if_eq (tgt := 29) hx hb dX2_leastBehind_24 rfl (fun c_6 => ?_) (fun c_6 => ?_)
        · refine lv_iinc (v := nI (h + 1)) (lv' := [(2, .int (nI (h + 1))), (0, .ref q), (1, .int (nI S))]) hx hb dX2_leastBehind_29 hl (k := 0) rfl (nI_add (h) 1) (Nat.le_of_ble_eq_true rfl) rfl (fun ls hl => ?_)
          refine lv_goto (tgt := 2) hx hb dX2_leastBehind_32 rfl ?_
          exact ih2 (h + 1) (by (try dsimp only); exact ⟨by omega, lbF_no hI.2 (avB_f2 (hs_n0 c_6))⟩) (by (try dsimp only); omega) _ _ _ hP hD hS (lv_sub hl [0, 1, 2] rfl)
        · refine lv_iload_n hx hb dX2_leastBehind_27 rfl (lv_at hl 0 rfl) ?_
          exact hs_iret hx hb hr hlocks hK hP hD hS () [0, 1] rfl (hs_upnd rfl) dX2_leastBehind_28 ((by have z9 := lbF_at hI.2 (avB_iff.mpr ⟨(hs_tb5 S (by omega) h (by omega)).mp c_2, hs_nb c_6⟩) (show h < q_z by omega); rw [z9, if_pos (by omega)]))
  · (try dsimp only); exact ⟨Nat.zero_le _, rfl⟩

set_option maxHeartbeats 4000000 in
set_option maxRecDepth 100000 in
theorem gf_ofFirst (l : Launch) (D : va_G) (k : Nat → ClassId) (sz : Nat) (q : Nat) (q_ahead : Nat) (q_ways : Nat) (q_z : Nat) (ii : Nat) (af : Nat → Int32) (ah : Nat → Nat) (hz : q_z ≤ 5) (hii : ii < q_z) (hah : ∀ h, h < 5 → (af h = nI (ah h) ∧ ah h < 32)) (hgo : ∀ j, j < q_z → grD ah q_z j < q_z) : MI l yX2_ofFirst wsX2_ofFirst ({ frames := 2, cells := 0, slots := 0, locals := 44 }) D k [.ref q, .int (nI ii)] [oq1 q q_ahead q_ways (nI q_z), oqI k q_ahead 5 (af)] sz (fun (r : Int32) (u : Unit) => r = nI (grD ah q_z ii)) (fun (u : Unit) => [oq1 q q_ahead q_ways (nI q_z), oqI k q_ahead 5 (af)]) := by
  refine Met.ofW (cc := cX2_ofFirst) (maxL := 5) (ret := (some .int)) hpn_X2 rfl ?_
  intro p e s m args below meth c s₁ B hml hv
  obtain ⟨rfl, hsz, hP, hK, hD0, hN⟩ := hv
  have hx := B.exec
  have hb := B.bytes
  have hr := B.returns
  have hlocks := B.notSynchronized
  have hts := atoms_spec (ws := wsX2_ofFirst) B.pre
  have hown := findClass_of_methodNamed B.named
  have hown : s.vm.findClass RX2 = some m.cls := hown
  subst hsz
  have hD := hD0.self (sz := s.heap.size)
  generalize hAe : va_A [oq1 q q_ahead q_ways (nI q_z), oqI k q_ahead 5 (af)] s.heap.size = A at hD ⊢
  have hA : ∀ q : Nat, s.heap.size ≤ q → A q := fun q h => by rw [← hAe]; exact Or.inr h
  have hS : va_S A s.heap s.heap [] := va_S.rf
  have hl := lv_entry ([.ref q, .int (nI ii)]) (n := 5) (Nat.le_of_ble_eq_true rfl)
  rw [lg_entry_eq]
  generalize (lg_sl ([.ref q, .int (nI ii)]) ++ List.replicate (5 - (lg_sl ([.ref q, .int (nI ii)])).length) Slot.unset).toArray = ls at hl ⊢
  have hl : lv_has ls 5 [(0, .ref q), (1, .int (nI ii))] := hl
  have hP : va_P D vwCl [oq1 q q_ahead q_ways (nI q_z), oqI k q_ahead 5 (af)] s.heap := hP
  refine lv_iconst (v := 0) hx hb dX2_ofFirst_0 hki_0 ?_
  refine lv_istore_n (lv' := [(2, .int 0), (0, .ref q), (1, .int (nI ii))]) hx hb dX2_ofFirst_1 rfl hl (Nat.le_of_ble_eq_true rfl) rfl (fun ls hl => ?_)
  refine lv_bipush (v := (-4)) hx hb dX2_ofFirst_2 hkb_m4 ?_
  refine lv_istore_n (lv' := [(3, .int (-4)), (2, .int 0), (0, .ref q), (1, .int (nI ii))]) hx hb dX2_ofFirst_4 rfl hl (Nat.le_of_ble_eq_true rfl) rfl (fun ls hl => ?_)
  refine lv_iconst (v := 0) hx hb dX2_ofFirst_5 hki_0 ?_
  refine lv_istore (lv' := [(4, .int 0), (3, .int (-4)), (2, .int 0), (0, .ref q), (1, .int (nI ii))]) hx hb dX2_ofFirst_6 hl (Nat.le_of_ble_eq_true rfl) rfl (fun ls hl => ?_)
  refine hs_while (σ := Nat × Int32 × Nat) (fun x => x.2.2 ≤ ii + 1 ∧ x.1 = grS ah q_z x.2.2 ∧ x.1 < 32 ∧ ∀ z9, x.2.2 = z9 + 1 → x.2.1 = nI (grD ah q_z z9)) (fun x => ii + 1 - x.2.2) (fun x => [oq1 q q_ahead q_ways (nI q_z), oqI k q_ahead 5 (af)]) (fun x => [(4, .int (nI (x.2.2))), (3, .int (x.2.1)), (2, .int (nI (x.1))), (0, .ref q), (1, .int (nI ii))]) ?_ (0, (-4), 0) ?_ hP hD hS hl
  · intro x hI ih8 H locs ls hP hD hS hl
    obtain ⟨pl, la, jj⟩ := x
    try dsimp only at hI
    have hP : va_P D vwCl [oq1 q q_ahead q_ways (nI q_z), oqI k q_ahead 5 (af)] H := hP
    have hD : va_D A [oq1 q q_ahead q_ways (nI q_z), oqI k q_ahead 5 (af)] := hD
    have hl : lv_has ls 5 [(4, .int (nI jj)), (3, .int la), (2, .int (nI pl)), (0, .ref q), (1, .int (nI ii))] := hl
    refine lv_iload hx hb dX2_ofFirst_8 (lv_at hl 0 rfl) ?_
    refine lv_iload_n hx hb dX2_ofFirst_10 rfl (lv_at hl 4 rfl) ?_
    refine lv_icmp_gt (tgt := 41) hx hb dX2_ofFirst_11 rfl (fun c_1 => ?_) (fun c_1 => ?_)
    · have nc_1 : ii < jj := (nI_ltI (a := ii) (b := jj) (by omega) (by omega)).mp c_1
      refine lv_iload_n hx hb dX2_ofFirst_41 rfl (lv_at hl 1 rfl) ?_
      exact hs_iret hx hb hr hlocks hK hP hD hS () [0, 1] rfl (hs_upnd rfl) dX2_ofFirst_42 ((hI.2.2.2 ii (by omega)))
    · have nc_1 : ¬ ii < jj := fun hq9 => c_1 ((nI_ltI (a := ii) (b := jj) (by omega) (by omega)).mpr hq9)
      refine lv_aload_n hx hb dX2_ofFirst_14 rfl (lv_at hl 3 rfl) ?_
      refine lv_iload_n hx hb dX2_ofFirst_15 rfl (lv_at hl 2 rfl) ?_
      refine hs_ciM (va_runV (As := [.int (nI pl)]) (rest := []) ⟨hx, hb, hml, hown, hts⟩ (gf_leastBehind l D k _ q q_ahead q_ways q_z pl af ah (by omega) (by omega) hah) (cwV 1 hts gX2_ofFirst_X2_leastBehind rfl rfl rfl ⟨rfl, hq_X2_leastBehind⟩ ⟨Nat.le_of_ble_eq_true rfl, Nat.le_of_ble_eq_true rfl⟩) (hs_preV hK hN (hs_subP (w := [_, _]) hP [0, 1] rfl) (hD.sub (ws' := [_, _]) [0, 1] (hs_upnd rfl) rfl) (ci := 1) (q0 := 0) rfl rfl) rfl rfl hl.1 rfl (lv_room (Nat.le_of_ble_eq_true rfl)) dX2_ofFirst_16 ⟨Nat.le_of_ble_eq_true rfl, Nat.le_of_ble_eq_true rfl⟩) hP hD hS hA [false, false] [] [_, _] rfl [0, 1] rfl [0, 1] (fun u_4 => [_, _]) (fun _ => rfl) (hs_upnd rfl) [false, false] (fun u_4 => [_, _]) (fun _ => rfl) (fun r_2 u_4 H locs hw_3 hP hD hS => ?_)
      refine hs_topi (if lbF (avB ah pl) q_z < q_z then nI (lbF (avB ah pl) q_z) else -4) hw_3 ?_
      refine hs_topi (nI (grD ah q_z jj)) (by rw [hI.2.1]; exact if_pos (hgo jj (by omega))) ?_
      refine lv_istore_n (lv' := [(3, .int (nI (grD ah q_z jj))), (4, .int (nI jj)), (2, .int (nI pl)), (0, .ref q), (1, .int (nI ii))]) hx hb dX2_ofFirst_19 rfl hl (Nat.le_of_ble_eq_true rfl) rfl (fun ls hl => ?_)
      refine lv_iload_n hx hb dX2_ofFirst_20 rfl (lv_at hl 0 rfl) ?_
      refine lv_bipush (v := (-4)) hx hb dX2_ofFirst_21 hkb_m4 ?_
      refine lv_icmp_ne (tgt := 29) hx hb dX2_ofFirst_23 rfl (fun c_5 => ?_) (fun c_5 => absurd c_5 (nI_n4 _ (by have z9 := hgo jj (by omega); omega)))
      refine lv_iload_n hx hb dX2_ofFirst_29 rfl (lv_at hl 2 rfl) ?_
      refine lv_iconst (v := 1) hx hb dX2_ofFirst_30 hki_1 ?_
      refine lv_iload_n hx hb dX2_ofFirst_31 rfl (lv_at hl 0 rfl) ?_
      refine lv_ishl hx hb dX2_ofFirst_32 ?_
      refine lv_ior hx hb dX2_ofFirst_33 ?_
      have hgj := hgo jj (by omega)
      have hpl : pl ||| 2 ^ grD ah q_z jj < 32 := Nat.or_lt_two_pow (n := 5) (show pl < 2 ^ 5 by omega) (Nat.pow_lt_pow_right (by decide) (by omega))
      refine hs_topi (nI (pl ||| 2 ^ grD ah q_z jj)) (hs_or5 pl (by omega) (grD ah q_z jj) (by omega)) ?_
      refine lv_istore_n (lv' := [(2, .int (nI (pl ||| 2 ^ grD ah q_z jj))), (3, .int (nI (grD ah q_z jj))), (4, .int (nI jj)), (0, .ref q), (1, .int (nI ii))]) hx hb dX2_ofFirst_34 rfl hl (Nat.le_of_ble_eq_true rfl) rfl (fun ls hl => ?_)
      refine lv_iinc (v := nI (jj + 1)) (lv' := [(4, .int (nI (jj + 1))), (2, .int (nI (pl ||| 2 ^ grD ah q_z jj))), (3, .int (nI (grD ah q_z jj))), (0, .ref q), (1, .int (nI ii))]) hx hb dX2_ofFirst_35 hl (k := 2) rfl (nI_add (jj) 1) (Nat.le_of_ble_eq_true rfl) rfl (fun ls hl => ?_)
      refine lv_goto (tgt := 8) hx hb dX2_ofFirst_38 rfl ?_
      exact ih8 (pl ||| 2 ^ grD ah q_z jj, nI (grD ah q_z jj), jj + 1) (by (try dsimp only); exact ⟨by omega, by rw [hI.2.1]; (try rfl), hpl, fun z9 h9 => by rw [show z9 = jj by omega]⟩) (by (try dsimp only); omega) _ _ _ hP hD hS (lv_sub hl [0, 2, 1, 3, 4] rfl)
  · (try dsimp only); exact ⟨Nat.zero_le _, rfl, by decide, fun z9 h9 => absurd h9 (by omega)⟩
