set_option maxHeartbeats 4000000 in
set_option maxRecDepth 100000 in
theorem g_isLane (l : Launch) (D : va_G) (k : Nat → ClassId) (sz : Nat) (v : Int32)  : MI l yX3_isLane wsX3_isLane ({ frames := 1, cells := 0, slots := 0, locals := 22 }) D k [.int v] [] sz (fun (r : Int32) (u : Unit) => r = hsb (hsin v 0 2)) (fun (u : Unit) => []) := by
  refine Met.ofW (cc := cX3_isLane) (maxL := 1) (ret := (some .boolean)) (by decide) rfl ?_
  intro p e s m args below meth c s₁ B hml hv
  obtain ⟨rfl, hsz, hP, hK, hD0, hN⟩ := hv
  have hx := B.exec
  have hb := B.bytes
  have hr := B.returns
  have hlocks := B.notSynchronized
  have hts := atoms_spec (ws := wsX3_isLane) B.pre
  have hown : s.vm.findClass RX3 = some m.cls := findClass_of_methodNamed B.named
  have iniX7 := hts (.initialized RX7) (by decide +kernel)
  have st_X7_within := hts (.static yX7_within) (by decide +kernel)
  subst hsz
  have hD := hD0.self (sz := s.heap.size)
  generalize hAe : va_A [] s.heap.size = A at hD ⊢
  have hA : ∀ q : Nat, s.heap.size ≤ q → A q := fun q h => by rw [← hAe]; exact Or.inr h
  have hS : va_S A s.heap s.heap [] := va_S.rf
  have hl := lv_entry ([.int v]) (n := 1) (Nat.le_of_ble_eq_true rfl)
  rw [lg_entry_eq]
  generalize (lg_sl ([.int v]) ++ List.replicate (1 - (lg_sl ([.int v])).length) Slot.unset).toArray = ls at hl ⊢
  have hl : lv_has ls 1 [(0, .int v)] := hl
  have hP : va_P D vwCl [] s.heap := hP
  refine lv_iload_n hx hb dX3_isLane_0 rfl (lv_at hl 0 rfl) ?_
  refine lv_iconst (v := 0) hx hb dX3_isLane_1 (by decide) ?_
  refine lv_iconst (v := 2) hx hb dX3_isLane_2 (by decide) ?_
  refine hs_pi (va_runSN (As := [.int v, .int 0, .int 2]) (rest := []) ⟨hx, hb, hml, hown, hts⟩ (g_within l D k _ v 0 2) ⟨(va_cnB 3 hts gX3_isLane_X7_within_n17 rfl rfl rfl hN.2.2.2.2.2.2.2.2.1 iniX7 (by decide +kernel) ⟨Nat.le_of_ble_eq_true rfl, Nat.le_of_ble_eq_true rfl⟩), st_X7_within, trivial⟩ (hs_preS hK hN (hs_subP (w := []) hP [] rfl) (hD.sub (ws' := []) [] (by decide) rfl)) rfl rfl hl.1 rfl (lv_room (Nat.le_of_ble_eq_true rfl)) dX3_isLane_3 ⟨Nat.le_of_ble_eq_true rfl, Nat.le_of_ble_eq_true rfl⟩) hP hD hS hA (fun r_1 u_3 H locs hw_2 hP hS => ?_)
  refine hs_topi (hsb (hsin v 0 2)) hw_2 ?_
  exact hs_zret hx hb hr hlocks hK hP hD hS () [] rfl (by decide) dX3_isLane_6 (hsb_n _) (rfl)

set_option maxHeartbeats 4000000 in
set_option maxRecDepth 100000 in
theorem g_isNothing (l : Launch) (D : va_G) (k : Nat → ClassId) (sz : Nat) (q : Nat) (q_row : Nat) (q_la : Int32) (q_z : Nat)  : MI l yX3_isNothing wsX3_isNothing ({ frames := 0, cells := 0, slots := 0, locals := 0 }) D k [.ref q] [(q, .inr (2, [.ref q_row, .int q_la, .int (nI q_z)]))] sz (fun (r : Int32) (u : Unit) => r = hsb (decide (q_la = -1))) (fun (u : Unit) => [(q, .inr (2, [.ref q_row, .int q_la, .int (nI q_z)]))]) := by
  refine Met.ofW (cc := cX3_isNothing) (maxL := 1) (ret := (some .boolean)) (by decide) rfl ?_
  intro p e s m args below meth c s₁ B hml hv
  obtain ⟨rfl, hsz, hP, hK, hD0, hN⟩ := hv
  have hx := B.exec
  have hb := B.bytes
  have hr := B.returns
  have hlocks := B.notSynchronized
  have hts := atoms_spec (ws := wsX3_isNothing) B.pre
  have hown : s.vm.findClass RX3 = some m.cls := findClass_of_methodNamed B.named
  have hiX3 : ∀ w ∈ u_ws RX3 TX3 3, w ∈ wsX3_isNothing := by decide +kernel
  have fl13 := hts (.fieldLink RX3 13 "HalfScales$Sheet" "laneOf" "I") (by decide +kernel)
  subst hsz
  have hD := hD0.self (sz := s.heap.size)
  generalize hAe : va_A [(q, .inr (2, [.ref q_row, .int q_la, .int (nI q_z)]))] s.heap.size = A at hD ⊢
  have hA : ∀ q : Nat, s.heap.size ≤ q → A q := fun q h => by rw [← hAe]; exact Or.inr h
  have hS : va_S A s.heap s.heap [] := va_S.rf
  have hl := lv_entry ([.ref q]) (n := 1) (Nat.le_of_ble_eq_true rfl)
  rw [lg_entry_eq]
  generalize (lg_sl ([.ref q]) ++ List.replicate (1 - (lg_sl ([.ref q])).length) Slot.unset).toArray = ls at hl ⊢
  have hl : lv_has ls 1 [(0, .ref q)] := hl
  have hP : va_P D vwCl [(q, .inr (2, [.ref q_row, .int q_la, .int (nI q_z)]))] s.heap := hP
  refine lv_aload_n hx hb dX3_isNothing_0 rfl (lv_at hl 0 rfl) ?_
  refine va_get (D := D) (ci := 2) (v := .int q_la) (C := RX3) (T := TX3) (N := 3) hx hb hts hiX3 hown hK hP 0 rfl rfl 1 (by decide) fl13 (fun _ h9 => h9) rfl dX3_isNothing_1 ?_
  refine lv_iconst (v := (-1)) hx hb dX3_isNothing_4 (by decide) ?_
  refine lv_icmp_ne (tgt := 12) hx hb dX3_isNothing_5 (by decide) (fun c_1 => ?_) (fun c_1 => ?_)
  · refine lv_iconst (v := 0) hx hb dX3_isNothing_12 (by decide) ?_
    exact hs_zret hx hb hr hlocks hK hP hD hS () [0] rfl (by decide) dX3_isNothing_13 rfl ((congrArg hsb (decide_eq_false c_1)).symm)
  · refine lv_iconst (v := 1) hx hb dX3_isNothing_8 (by decide) ?_
    refine lv_goto (tgt := 13) hx hb dX3_isNothing_9 (by decide) ?_
    exact hs_zret hx hb hr hlocks hK hP hD hS () [0] rfl (by decide) dX3_isNothing_13 rfl ((congrArg hsb (decide_eq_true c_1)).symm)

set_option maxHeartbeats 4000000 in
set_option maxRecDepth 100000 in
theorem g_renew (l : Launch) (D : va_G) (k : Nat → ClassId) (sz : Nat) (q : Nat) (q_row : Nat) (q_la : Int32) (q_z : Nat) (la : Int32) (n : Nat) (rf : Nat → Int32)  : MV l yX3_renew wsX3_renew ({ frames := 0, cells := 0, slots := 0, locals := 0 }) D k [.ref q, .int la, .int (nI n)] [(q, .inr (2, [.ref q_row, .int q_la, .int (nI q_z)])), (q_row, .inl (k 0, 40, .inl (rf)))] sz (fun (u : Nat → Int32) => True) (fun (u : Nat → Int32) => [(q, .inr (2, [.ref q_row, .int la, .int (nI n)])), (q_row, .inl (k 0, 40, .inl (u)))]) := by
  refine Met.ofW (cc := cX3_renew) (maxL := 4) (ret := none) (by decide) rfl ?_
  intro p e s m args below meth c s₁ B hml hv
  obtain ⟨rfl, hsz, hP, hK, hD0, hN⟩ := hv
  have hx := B.exec
  have hb := B.bytes
  have hr := B.returns
  have hlocks := B.notSynchronized
  have hts := atoms_spec (ws := wsX3_renew) B.pre
  have hown : s.vm.findClass RX3 = some m.cls := findClass_of_methodNamed B.named
  have hiX3 : ∀ w ∈ u_ws RX3 TX3 3, w ∈ wsX3_renew := by decide +kernel
  have fl13 := hts (.fieldLink RX3 13 "HalfScales$Sheet" "laneOf" "I") (by decide +kernel)
  have fl23 := hts (.fieldLink RX3 23 "HalfScales$Sheet" "size" "I") (by decide +kernel)
  have fl9 := hts (.fieldLink RX3 9 "HalfScales$Sheet" "row" "[I") (by decide +kernel)
  subst hsz
  have hD := hD0.self (sz := s.heap.size)
  generalize hAe : va_A [(q, .inr (2, [.ref q_row, .int q_la, .int (nI q_z)])), (q_row, .inl (k 0, 40, .inl (rf)))] s.heap.size = A at hD ⊢
  have hA : ∀ q : Nat, s.heap.size ≤ q → A q := fun q h => by rw [← hAe]; exact Or.inr h
  have hS : va_S A s.heap s.heap [] := va_S.rf
  have hl := lv_entry ([.ref q, .int la, .int (nI n)]) (n := 4) (Nat.le_of_ble_eq_true rfl)
  rw [lg_entry_eq]
  generalize (lg_sl ([.ref q, .int la, .int (nI n)]) ++ List.replicate (4 - (lg_sl ([.ref q, .int la, .int (nI n)])).length) Slot.unset).toArray = ls at hl ⊢
  have hl : lv_has ls 4 [(0, .ref q), (1, .int la), (2, .int (nI n))] := hl
  have hP : va_P D vwCl [(q, .inr (2, [.ref q_row, .int q_la, .int (nI q_z)])), (q_row, .inl (k 0, 40, .inl (rf)))] s.heap := hP
  refine lv_aload_n hx hb dX3_renew_0 rfl (lv_at hl 0 rfl) ?_
  refine lv_iload_n hx hb dX3_renew_1 rfl (lv_at hl 1 rfl) ?_
  refine va_put (D := D) (ci := 2) (v := .int la) (ty := .int) (C := RX3) (T := TX3) (N := 3) hx hb hts hiX3 tyX3 tyX3_ok nmX3 hown hK hP hD hS 0 rfl rfl 1 (by decide) fl13 (fun _ h9 => h9) rfl (by decide +kernel) rfl rfl (Nat.le_of_ble_eq_true rfl) dX3_renew_2 (fun H locs hP hD hS => ?_)
  have hP : va_P D vwCl [(q, .inr (2, [.ref q_row, .int la, .int (nI q_z)])), (q_row, .inl (k 0, 40, .inl (rf)))] H := hP
  have hD : va_D A [(q, .inr (2, [.ref q_row, .int la, .int (nI q_z)])), (q_row, .inl (k 0, 40, .inl (rf)))] := hD
  refine lv_aload_n hx hb dX3_renew_5 rfl (lv_at hl 0 rfl) ?_
  refine lv_iload_n hx hb dX3_renew_6 rfl (lv_at hl 2 rfl) ?_
  refine va_put (D := D) (ci := 2) (v := .int (nI n)) (ty := .int) (C := RX3) (T := TX3) (N := 3) hx hb hts hiX3 tyX3 tyX3_ok nmX3 hown hK hP hD hS 0 rfl rfl 2 (by decide) fl23 (fun _ h9 => h9) rfl (by decide +kernel) rfl rfl (Nat.le_of_ble_eq_true rfl) dX3_renew_7 (fun H locs hP hD hS => ?_)
  have hP : va_P D vwCl [(q, .inr (2, [.ref q_row, .int la, .int (nI n)])), (q_row, .inl (k 0, 40, .inl (rf)))] H := hP
  have hD : va_D A [(q, .inr (2, [.ref q_row, .int la, .int (nI n)])), (q_row, .inl (k 0, 40, .inl (rf)))] := hD
  refine lv_iconst (v := 0) hx hb dX3_renew_10 (by decide) ?_
  refine lv_istore_n (lv' := [(3, .int 0), (0, .ref q), (1, .int la), (2, .int (nI n))]) hx hb dX3_renew_11 rfl hl (by decide) rfl (fun ls hl => ?_)
  refine hs_while (σ := Nat × (Nat → Int32)) (fun x => x.1 ≤ 40) (fun x => 40 - x.1) (fun x => [(q, .inr (2, [.ref q_row, .int la, .int (nI n)])), (q_row, .inl (k 0, 40, .inl ((x.2))))]) (fun x => [(3, .int (nI (x.1))), (0, .ref q), (1, .int la), (2, .int (nI n))]) ?_ (0, rf) ?_ hP hD hS hl
  · intro x hI ih12 H locs ls hP hD hS hl
    obtain ⟨i, rf2⟩ := x
    try dsimp only at hI
    have hP : va_P D vwCl [(q, .inr (2, [.ref q_row, .int la, .int (nI n)])), (q_row, .inl (k 0, 40, .inl (rf2)))] H := hP
    have hD : va_D A [(q, .inr (2, [.ref q_row, .int la, .int (nI n)])), (q_row, .inl (k 0, 40, .inl (rf2)))] := hD
    have hl : lv_has ls 4 [(3, .int (nI i)), (0, .ref q), (1, .int la), (2, .int (nI n))] := hl
    refine lv_iload_n hx hb dX3_renew_12 rfl (lv_at hl 0 rfl) ?_
    refine lv_bipush (v := 40) hx hb dX3_renew_13 (by decide) ?_
    refine lv_icmp_ge (tgt := 31) hx hb dX3_renew_15 (by decide) (fun c_1 => ?_) (fun c_1 => ?_)
    · have nc_1 : 40 ≤ i := (nI_leI (a := 40) (b := i) (by omega) (by omega)).mp c_1
      exact hs_vret hx hb hr hlocks hK hP hD hS rf2 [0, 1] rfl (by decide) dX3_renew_31 (trivial)
    · have nc_1 : ¬ 40 ≤ i := fun hq9 => c_1 ((nI_leI (a := 40) (b := i) (by omega) (by omega)).mpr hq9)
      refine lv_aload_n hx hb dX3_renew_18 rfl (lv_at hl 1 rfl) ?_
      refine va_get (D := D) (ci := 2) (v := .ref q_row) (C := RX3) (T := TX3) (N := 3) hx hb hts hiX3 hown hK hP 0 rfl rfl 0 (by decide) fl9 (fun _ h9 => h9) rfl dX3_renew_19 ?_
      refine lv_iload_n hx hb dX3_renew_22 rfl (lv_at hl 0 rfl) ?_
      refine lv_iconst (v := 0) hx hb dX3_renew_23 (by decide) ?_
      refine va_iast hx hb hK hP hD hS 1 0 rfl rfl (vp_in_nI (show i < 40 by omega) (by decide)) dX3_renew_24 (fun H locs hP hD hS => ?_)
      have hP : va_P D vwCl [(q, .inr (2, [.ref q_row, .int la, .int (nI n)])), (q_row, .inl (k 0, 40, .inl (upd rf2 ((nI i).toNatClampNeg) 0)))] H := hP
      have hD : va_D A [(q, .inr (2, [.ref q_row, .int la, .int (nI n)])), (q_row, .inl (k 0, 40, .inl (upd rf2 ((nI i).toNatClampNeg) 0)))] := hD
      refine lv_iinc (v := nI (i + 1)) (lv' := [(3, .int (nI (i + 1))), (0, .ref q), (1, .int la), (2, .int (nI n))]) hx hb dX3_renew_25 hl (k := 0) rfl (nI_add (i) 1) (by decide) rfl (fun ls hl => ?_)
      refine lv_goto (tgt := 12) hx hb dX3_renew_28 (by decide) ?_
      exact ih12 (i + 1, upd rf2 ((nI i).toNatClampNeg) 0) (by (try dsimp only); first | omega | (refine ⟨?_, ?_⟩ <;> first | omega | assumption)) (by (try dsimp only); omega) _ _ _ hP hD hS (lv_sub hl [0, 1, 2, 3] rfl)
  · (try dsimp only); first | omega | (refine ⟨?_, ?_⟩ <;> first | omega | assumption)

set_option maxHeartbeats 4000000 in
set_option maxRecDepth 100000 in
theorem g_faultAt (l : Launch) (D : va_G) (k : Nat → ClassId) (sz : Nat) (q : Nat) (q_row : Nat) (q_la : Int32) (q_z : Nat) (i : Int32) (hz : q_z ≤ 40) : MI l yX3_faultAt wsX3_faultAt ({ frames := 1, cells := 0, slots := 0, locals := 22 }) D k [.ref q, .int i] [(q, .inr (2, [.ref q_row, .int q_la, .int (nI q_z)]))] sz (fun (r : Int32) (u : Unit) => r = (if q_la = -1 then 1 else if hslt i q_z then 0 else 2)) (fun (u : Unit) => [(q, .inr (2, [.ref q_row, .int q_la, .int (nI q_z)]))]) := by
  refine Met.ofW (cc := cX3_faultAt) (maxL := 2) (ret := (some .int)) (by decide) rfl ?_
  intro p e s m args below meth c s₁ B hml hv
  obtain ⟨rfl, hsz, hP, hK, hD0, hN⟩ := hv
  have hx := B.exec
  have hb := B.bytes
  have hr := B.returns
  have hlocks := B.notSynchronized
  have hts := atoms_spec (ws := wsX3_faultAt) B.pre
  have hown : s.vm.findClass RX3 = some m.cls := findClass_of_methodNamed B.named
  have hiX3 : ∀ w ∈ u_ws RX3 TX3 3, w ∈ wsX3_faultAt := by decide +kernel
  have fl23 := hts (.fieldLink RX3 23 "HalfScales$Sheet" "size" "I") (by decide +kernel)
  have iniX7 := hts (.initialized RX7) (by decide +kernel)
  have st_X7_within := hts (.static yX7_within) (by decide +kernel)
  subst hsz
  have hD := hD0.self (sz := s.heap.size)
  generalize hAe : va_A [(q, .inr (2, [.ref q_row, .int q_la, .int (nI q_z)]))] s.heap.size = A at hD ⊢
  have hA : ∀ q : Nat, s.heap.size ≤ q → A q := fun q h => by rw [← hAe]; exact Or.inr h
  have hS : va_S A s.heap s.heap [] := va_S.rf
  have hl := lv_entry ([.ref q, .int i]) (n := 2) (Nat.le_of_ble_eq_true rfl)
  rw [lg_entry_eq]
  generalize (lg_sl ([.ref q, .int i]) ++ List.replicate (2 - (lg_sl ([.ref q, .int i])).length) Slot.unset).toArray = ls at hl ⊢
  have hl : lv_has ls 2 [(0, .ref q), (1, .int i)] := hl
  have hP : va_P D vwCl [(q, .inr (2, [.ref q_row, .int q_la, .int (nI q_z)]))] s.heap := hP
  refine lv_aload_n hx hb dX3_faultAt_0 rfl (lv_at hl 0 rfl) ?_
  refine hs_ci (va_runV (As := []) (rest := []) ⟨hx, hb, hml, hown, hts⟩ (g_isNothing l D k _ q q_row q_la q_z) (cwV 0 hts gX3_faultAt_X3_isNothing rfl rfl rfl (by decide +kernel) ⟨Nat.le_of_ble_eq_true rfl, Nat.le_of_ble_eq_true rfl⟩) (hs_preV hK hN (hs_subP (w := [(q, .inr (2, [.ref q_row, .int q_la, .int (nI q_z)]))]) hP [0] rfl) (hD.sub (ws' := [(q, .inr (2, [.ref q_row, .int q_la, .int (nI q_z)]))]) [0] (by decide) rfl) (ci := 2) (q0 := 0) rfl rfl) rfl rfl hl.1 rfl (lv_room (Nat.le_of_ble_eq_true rfl)) dX3_faultAt_1 ⟨Nat.le_of_ble_eq_true rfl, Nat.le_of_ble_eq_true rfl⟩) hP hD hS hA [0] [] [] rfl rfl (by decide) (by decide) [0] (fun u_3 => [(q, .inr (2, [.ref q_row, .int q_la, .int (nI q_z)]))]) (fun _ => rfl) (by decide) (fun r_1 u_3 H locs hw_2 hP hD hS => ?_)
  have hP : va_P D vwCl [(q, .inr (2, [.ref q_row, .int q_la, .int (nI q_z)]))] H := hP
  have hD : va_D A [(q, .inr (2, [.ref q_row, .int q_la, .int (nI q_z)]))] := hD
  refine hs_topi (hsb (decide (q_la = -1))) hw_2 ?_
  refine lv_if_eq (tgt := 9) hx hb dX3_faultAt_4 (by decide) (fun c_4 => ?_) (fun c_4 => ?_)
  · refine lv_iload_n hx hb dX3_faultAt_9 rfl (lv_at hl 1 rfl) ?_
    refine lv_iconst (v := 0) hx hb dX3_faultAt_10 (by decide) ?_
    refine lv_aload_n hx hb dX3_faultAt_11 rfl (lv_at hl 0 rfl) ?_
    refine va_get (D := D) (ci := 2) (v := .int (nI q_z)) (C := RX3) (T := TX3) (N := 3) hx hb hts hiX3 hown hK hP 0 rfl rfl 2 (by decide) fl23 (fun _ h9 => h9) rfl dX3_faultAt_12 ?_
    refine lv_iconst (v := 1) hx hb dX3_faultAt_15 (by decide) ?_
    refine lv_isub hx hb dX3_faultAt_16 ?_
    refine hs_pi (va_runSN (As := [.int i, .int 0, .int ((nI q_z) - 1)]) (rest := []) ⟨hx, hb, hml, hown, hts⟩ (g_within l D k _ i 0 ((nI q_z) - 1)) ⟨(va_cnB 3 hts gX3_faultAt_X7_within_n17 rfl rfl rfl hN.2.2.2.2.2.2.2.2.1 iniX7 (by decide +kernel) ⟨Nat.le_of_ble_eq_true rfl, Nat.le_of_ble_eq_true rfl⟩), st_X7_within, trivial⟩ (hs_preS hK hN (hs_subP (w := []) hP [] rfl) (hD.sub (ws' := []) [] (by decide) rfl)) rfl rfl hl.1 rfl (lv_room (Nat.le_of_ble_eq_true rfl)) dX3_faultAt_17 ⟨Nat.le_of_ble_eq_true rfl, Nat.le_of_ble_eq_true rfl⟩) hP hD hS hA (fun r_5 u_7 H locs hw_6 hP hS => ?_)
    refine hs_topi (hsb (hsin i 0 ((nI q_z) - 1))) hw_6 ?_
    refine lv_if_eq (tgt := 27) hx hb dX3_faultAt_20 (by decide) (fun c_8 => ?_) (fun c_8 => ?_)
    · refine lv_iconst (v := 2) hx hb dX3_faultAt_27 (by decide) ?_
      exact hs_iret hx hb hr hlocks hK hP hD hS () [0] rfl (by decide) dX3_faultAt_28 (by have f0 := c_4; have f1 := c_8; simp only [hslt_in (show q_z < 2 ^ 30 by omega), hsb_0, hsb_1, decide_eq_true_eq, decide_eq_false_iff_not] at f0 f1; simp [f0, f1])
    · refine lv_iconst (v := 0) hx hb dX3_faultAt_23 (by decide) ?_
      refine lv_goto (tgt := 28) hx hb dX3_faultAt_24 (by decide) ?_
      exact hs_iret hx hb hr hlocks hK hP hD hS () [0] rfl (by decide) dX3_faultAt_28 (by have f0 := c_4; have f1 := c_8; simp only [hslt_in (show q_z < 2 ^ 30 by omega), hsb_0, hsb_1, decide_eq_true_eq, decide_eq_false_iff_not] at f0 f1; simp [f0, f1])
  · refine lv_iconst (v := 1) hx hb dX3_faultAt_7 (by decide) ?_
    exact hs_iret hx hb hr hlocks hK hP hD hS () [0] rfl (by decide) dX3_faultAt_8 (by have f0 := c_4; simp only [hslt_in (show q_z < 2 ^ 30 by omega), hsb_0, hsb_1, decide_eq_true_eq, decide_eq_false_iff_not] at f0; simp [f0])

theorem hslt_vp {v : Int32} {n N : Nat} (h : hslt v n = true) (hn : n ≤ N) : vp_in v N := by
  simp only [hslt, Bool.and_eq_true, decide_eq_true_eq] at h
  exact vp_in_iff.mpr ⟨h.1, by omega⟩

set_option maxHeartbeats 4000000 in
set_option maxRecDepth 100000 in
theorem g_faultOfTwo (l : Launch) (D : va_G) (k : Nat → ClassId) (sz : Nat) (q : Nat) (q_row : Nat) (q_la : Int32) (q_z : Nat) (la : Int32) (i : Int32) (hz : q_z ≤ 40) : MI l yX3_faultOfTwo wsX3_faultOfTwo ({ frames := 2, cells := 0, slots := 0, locals := 43 }) D k [.ref q, .int la, .int i] [(q, .inr (2, [.ref q_row, .int q_la, .int (nI q_z)]))] sz (fun (r : Int32) (u : Unit) => True) (fun (u : Unit) => [(q, .inr (2, [.ref q_row, .int q_la, .int (nI q_z)]))]) := by
  refine Met.ofW (cc := cX3_faultOfTwo) (maxL := 4) (ret := (some .int)) (by decide) rfl ?_
  intro p e s m args below meth c s₁ B hml hv
  obtain ⟨rfl, hsz, hP, hK, hD0, hN⟩ := hv
  have hx := B.exec
  have hb := B.bytes
  have hr := B.returns
  have hlocks := B.notSynchronized
  have hts := atoms_spec (ws := wsX3_faultOfTwo) B.pre
  have hown : s.vm.findClass RX3 = some m.cls := findClass_of_methodNamed B.named
  have hiX3 : ∀ w ∈ u_ws RX3 TX3 3, w ∈ wsX3_faultOfTwo := by decide +kernel
  have fl13 := hts (.fieldLink RX3 13 "HalfScales$Sheet" "laneOf" "I") (by decide +kernel)
  subst hsz
  have hD := hD0.self (sz := s.heap.size)
  generalize hAe : va_A [(q, .inr (2, [.ref q_row, .int q_la, .int (nI q_z)]))] s.heap.size = A at hD ⊢
  have hA : ∀ q : Nat, s.heap.size ≤ q → A q := fun q h => by rw [← hAe]; exact Or.inr h
  have hS : va_S A s.heap s.heap [] := va_S.rf
  have hl := lv_entry ([.ref q, .int la, .int i]) (n := 4) (Nat.le_of_ble_eq_true rfl)
  rw [lg_entry_eq]
  generalize (lg_sl ([.ref q, .int la, .int i]) ++ List.replicate (4 - (lg_sl ([.ref q, .int la, .int i])).length) Slot.unset).toArray = ls at hl ⊢
  have hl : lv_has ls 4 [(0, .ref q), (1, .int la), (2, .int i)] := hl
  have hP : va_P D vwCl [(q, .inr (2, [.ref q_row, .int q_la, .int (nI q_z)]))] s.heap := hP
  refine lv_aload_n hx hb dX3_faultOfTwo_0 rfl (lv_at hl 0 rfl) ?_
  refine hs_ci (va_runV (As := []) (rest := []) ⟨hx, hb, hml, hown, hts⟩ (g_isNothing l D k _ q q_row q_la q_z) (cwV 0 hts gX3_faultOfTwo_X3_isNothing rfl rfl rfl (by decide +kernel) ⟨Nat.le_of_ble_eq_true rfl, Nat.le_of_ble_eq_true rfl⟩) (hs_preV hK hN (hs_subP (w := [(q, .inr (2, [.ref q_row, .int q_la, .int (nI q_z)]))]) hP [0] rfl) (hD.sub (ws' := [(q, .inr (2, [.ref q_row, .int q_la, .int (nI q_z)]))]) [0] (by decide) rfl) (ci := 2) (q0 := 0) rfl rfl) rfl rfl hl.1 rfl (lv_room (Nat.le_of_ble_eq_true rfl)) dX3_faultOfTwo_1 ⟨Nat.le_of_ble_eq_true rfl, Nat.le_of_ble_eq_true rfl⟩) hP hD hS hA [0] [] [] rfl rfl (by decide) (by decide) [0] (fun u_3 => [(q, .inr (2, [.ref q_row, .int q_la, .int (nI q_z)]))]) (fun _ => rfl) (by decide) (fun r_1 u_3 H locs hw_2 hP hD hS => ?_)
  have hP : va_P D vwCl [(q, .inr (2, [.ref q_row, .int q_la, .int (nI q_z)]))] H := hP
  have hD : va_D A [(q, .inr (2, [.ref q_row, .int q_la, .int (nI q_z)]))] := hD
  refine hs_topi (hsb (decide (q_la = -1))) hw_2 ?_
  refine lv_if_ne (tgt := 17) hx hb dX3_faultOfTwo_4 (by decide) (fun c_4 => ?_) (fun c_4 => ?_)
  · refine lv_aload_n hx hb dX3_faultOfTwo_17 rfl (lv_at hl 0 rfl) ?_
    refine lv_iload_n hx hb dX3_faultOfTwo_18 rfl (lv_at hl 2 rfl) ?_
    refine hs_ci (va_runV (As := [.int i]) (rest := []) ⟨hx, hb, hml, hown, hts⟩ (g_faultAt l D k _ q q_row q_la q_z i (by omega)) (cwV 1 hts gX3_faultOfTwo_X3_faultAt rfl rfl rfl (by decide +kernel) ⟨Nat.le_of_ble_eq_true rfl, Nat.le_of_ble_eq_true rfl⟩) (hs_preV hK hN (hs_subP (w := [(q, .inr (2, [.ref q_row, .int q_la, .int (nI q_z)]))]) hP [0] rfl) (hD.sub (ws' := [(q, .inr (2, [.ref q_row, .int q_la, .int (nI q_z)]))]) [0] (by decide) rfl) (ci := 2) (q0 := 0) rfl rfl) rfl rfl hl.1 rfl (lv_room (Nat.le_of_ble_eq_true rfl)) dX3_faultOfTwo_19 ⟨Nat.le_of_ble_eq_true rfl, Nat.le_of_ble_eq_true rfl⟩) hP hD hS hA [0] [] [] rfl rfl (by decide) (by decide) [0] (fun u_7 => [(q, .inr (2, [.ref q_row, .int q_la, .int (nI q_z)]))]) (fun _ => rfl) (by decide) (fun r_5 u_7 H locs hw_6 hP hD hS => ?_)
    have hP : va_P D vwCl [(q, .inr (2, [.ref q_row, .int q_la, .int (nI q_z)]))] H := hP
    have hD : va_D A [(q, .inr (2, [.ref q_row, .int q_la, .int (nI q_z)]))] := hD
    refine hs_topi (if q_la = -1 then 1 else if hslt i q_z then 0 else 2) hw_6 ?_
    refine lv_istore_n (lv' := [(3, .int (if q_la = -1 then 1 else if hslt i q_z then 0 else 2)), (0, .ref q), (1, .int la), (2, .int i)]) hx hb dX3_faultOfTwo_22 rfl hl (by decide) rfl (fun ls hl => ?_)
    refine lv_iload_n hx hb dX3_faultOfTwo_23 rfl (lv_at hl 0 rfl) ?_
    refine lv_if_eq (tgt := 31) hx hb dX3_faultOfTwo_24 (by decide) (fun c_8 => ?_) (fun c_8 => ?_)
    · refine lv_aload_n hx hb dX3_faultOfTwo_31 rfl (lv_at hl 1 rfl) ?_
      refine lv_iload_n hx hb dX3_faultOfTwo_32 rfl (lv_at hl 3 rfl) ?_
      refine lv_iconst (v := 1) hx hb dX3_faultOfTwo_33 (by decide) ?_
      refine lv_iadd hx hb dX3_faultOfTwo_34 ?_
      refine hs_ci (va_runV (As := [.int (i + 1)]) (rest := []) ⟨hx, hb, hml, hown, hts⟩ (g_faultAt l D k _ q q_row q_la q_z (i + 1) (by omega)) (cwV 1 hts gX3_faultOfTwo_X3_faultAt rfl rfl rfl (by decide +kernel) ⟨Nat.le_of_ble_eq_true rfl, Nat.le_of_ble_eq_true rfl⟩) (hs_preV hK hN (hs_subP (w := [(q, .inr (2, [.ref q_row, .int q_la, .int (nI q_z)]))]) hP [0] rfl) (hD.sub (ws' := [(q, .inr (2, [.ref q_row, .int q_la, .int (nI q_z)]))]) [0] (by decide) rfl) (ci := 2) (q0 := 0) rfl rfl) rfl rfl hl.1 rfl (lv_room (Nat.le_of_ble_eq_true rfl)) dX3_faultOfTwo_35 ⟨Nat.le_of_ble_eq_true rfl, Nat.le_of_ble_eq_true rfl⟩) hP hD hS hA [0] [] [] rfl rfl (by decide) (by decide) [0] (fun u_11 => [(q, .inr (2, [.ref q_row, .int q_la, .int (nI q_z)]))]) (fun _ => rfl) (by decide) (fun r_9 u_11 H locs hw_10 hP hD hS => ?_)
      have hP : va_P D vwCl [(q, .inr (2, [.ref q_row, .int q_la, .int (nI q_z)]))] H := hP
      have hD : va_D A [(q, .inr (2, [.ref q_row, .int q_la, .int (nI q_z)]))] := hD
      refine hs_topi (if q_la = -1 then 1 else if hslt (i + 1) q_z then 0 else 2) hw_10 ?_
      exact hs_iret hx hb hr hlocks hK hP hD hS () [0] rfl (by decide) dX3_faultOfTwo_38 (trivial)
    · refine lv_iload_n hx hb dX3_faultOfTwo_27 rfl (lv_at hl 0 rfl) ?_
      refine lv_goto (tgt := 38) hx hb dX3_faultOfTwo_28 (by decide) ?_
      exact hs_iret hx hb hr hlocks hK hP hD hS () [0] rfl (by decide) dX3_faultOfTwo_38 (trivial)
  · refine lv_iload_n hx hb dX3_faultOfTwo_7 rfl (lv_at hl 1 rfl) ?_
    refine lv_aload_n hx hb dX3_faultOfTwo_8 rfl (lv_at hl 0 rfl) ?_
    refine va_get (D := D) (ci := 2) (v := .int q_la) (C := RX3) (T := TX3) (N := 3) hx hb hts hiX3 hown hK hP 0 rfl rfl 1 (by decide) fl13 (fun _ h9 => h9) rfl dX3_faultOfTwo_9 ?_
    refine lv_icmp_eq (tgt := 17) hx hb dX3_faultOfTwo_12 (by decide) (fun c_12 => ?_) (fun c_12 => ?_)
    · refine lv_aload_n hx hb dX3_faultOfTwo_17 rfl (lv_at hl 0 rfl) ?_
      refine lv_iload_n hx hb dX3_faultOfTwo_18 rfl (lv_at hl 2 rfl) ?_
      refine hs_ci (va_runV (As := [.int i]) (rest := []) ⟨hx, hb, hml, hown, hts⟩ (g_faultAt l D k _ q q_row q_la q_z i (by omega)) (cwV 1 hts gX3_faultOfTwo_X3_faultAt rfl rfl rfl (by decide +kernel) ⟨Nat.le_of_ble_eq_true rfl, Nat.le_of_ble_eq_true rfl⟩) (hs_preV hK hN (hs_subP (w := [(q, .inr (2, [.ref q_row, .int q_la, .int (nI q_z)]))]) hP [0] rfl) (hD.sub (ws' := [(q, .inr (2, [.ref q_row, .int q_la, .int (nI q_z)]))]) [0] (by decide) rfl) (ci := 2) (q0 := 0) rfl rfl) rfl rfl hl.1 rfl (lv_room (Nat.le_of_ble_eq_true rfl)) dX3_faultOfTwo_19 ⟨Nat.le_of_ble_eq_true rfl, Nat.le_of_ble_eq_true rfl⟩) hP hD hS hA [0] [] [] rfl rfl (by decide) (by decide) [0] (fun u_15 => [(q, .inr (2, [.ref q_row, .int q_la, .int (nI q_z)]))]) (fun _ => rfl) (by decide) (fun r_13 u_15 H locs hw_14 hP hD hS => ?_)
      have hP : va_P D vwCl [(q, .inr (2, [.ref q_row, .int q_la, .int (nI q_z)]))] H := hP
      have hD : va_D A [(q, .inr (2, [.ref q_row, .int q_la, .int (nI q_z)]))] := hD
      refine hs_topi (if q_la = -1 then 1 else if hslt i q_z then 0 else 2) hw_14 ?_
      refine lv_istore_n (lv' := [(3, .int (if q_la = -1 then 1 else if hslt i q_z then 0 else 2)), (0, .ref q), (1, .int la), (2, .int i)]) hx hb dX3_faultOfTwo_22 rfl hl (by decide) rfl (fun ls hl => ?_)
      refine lv_iload_n hx hb dX3_faultOfTwo_23 rfl (lv_at hl 0 rfl) ?_
      refine lv_if_eq (tgt := 31) hx hb dX3_faultOfTwo_24 (by decide) (fun c_16 => ?_) (fun c_16 => ?_)
      · refine lv_aload_n hx hb dX3_faultOfTwo_31 rfl (lv_at hl 1 rfl) ?_
        refine lv_iload_n hx hb dX3_faultOfTwo_32 rfl (lv_at hl 3 rfl) ?_
        refine lv_iconst (v := 1) hx hb dX3_faultOfTwo_33 (by decide) ?_
        refine lv_iadd hx hb dX3_faultOfTwo_34 ?_
        refine hs_ci (va_runV (As := [.int (i + 1)]) (rest := []) ⟨hx, hb, hml, hown, hts⟩ (g_faultAt l D k _ q q_row q_la q_z (i + 1) (by omega)) (cwV 1 hts gX3_faultOfTwo_X3_faultAt rfl rfl rfl (by decide +kernel) ⟨Nat.le_of_ble_eq_true rfl, Nat.le_of_ble_eq_true rfl⟩) (hs_preV hK hN (hs_subP (w := [(q, .inr (2, [.ref q_row, .int q_la, .int (nI q_z)]))]) hP [0] rfl) (hD.sub (ws' := [(q, .inr (2, [.ref q_row, .int q_la, .int (nI q_z)]))]) [0] (by decide) rfl) (ci := 2) (q0 := 0) rfl rfl) rfl rfl hl.1 rfl (lv_room (Nat.le_of_ble_eq_true rfl)) dX3_faultOfTwo_35 ⟨Nat.le_of_ble_eq_true rfl, Nat.le_of_ble_eq_true rfl⟩) hP hD hS hA [0] [] [] rfl rfl (by decide) (by decide) [0] (fun u_19 => [(q, .inr (2, [.ref q_row, .int q_la, .int (nI q_z)]))]) (fun _ => rfl) (by decide) (fun r_17 u_19 H locs hw_18 hP hD hS => ?_)
        have hP : va_P D vwCl [(q, .inr (2, [.ref q_row, .int q_la, .int (nI q_z)]))] H := hP
        have hD : va_D A [(q, .inr (2, [.ref q_row, .int q_la, .int (nI q_z)]))] := hD
        refine hs_topi (if q_la = -1 then 1 else if hslt (i + 1) q_z then 0 else 2) hw_18 ?_
        exact hs_iret hx hb hr hlocks hK hP hD hS () [0] rfl (by decide) dX3_faultOfTwo_38 (trivial)
      · refine lv_iload_n hx hb dX3_faultOfTwo_27 rfl (lv_at hl 0 rfl) ?_
        refine lv_goto (tgt := 38) hx hb dX3_faultOfTwo_28 (by decide) ?_
        exact hs_iret hx hb hr hlocks hK hP hD hS () [0] rfl (by decide) dX3_faultOfTwo_38 (trivial)
    · refine lv_iconst (v := 3) hx hb dX3_faultOfTwo_15 (by decide) ?_
      exact hs_iret hx hb hr hlocks hK hP hD hS () [0] rfl (by decide) dX3_faultOfTwo_16 (trivial)

set_option maxHeartbeats 4000000 in
set_option maxRecDepth 100000 in
theorem g_at (l : Launch) (D : va_G) (k : Nat → ClassId) (sz : Nat) (q : Nat) (q_row : Nat) (q_la : Int32) (q_z : Nat) (i : Int32) (rf : Nat → Int32) (hz : q_z ≤ 40) : MI l yX3_at wsX3_at ({ frames := 1, cells := 0, slots := 0, locals := 22 }) D k [.ref q, .int i] [(q, .inr (2, [.ref q_row, .int q_la, .int (nI q_z)])), (q_row, .inl (k 0, 40, .inl (rf)))] sz (fun (r : Int32) (u : Unit) => True) (fun (u : Unit) => [(q, .inr (2, [.ref q_row, .int q_la, .int (nI q_z)])), (q_row, .inl (k 0, 40, .inl (rf)))]) := by
  refine Met.ofW (cc := cX3_at) (maxL := 2) (ret := (some .int)) (by decide) rfl ?_
  intro p e s m args below meth c s₁ B hml hv
  obtain ⟨rfl, hsz, hP, hK, hD0, hN⟩ := hv
  have hx := B.exec
  have hb := B.bytes
  have hr := B.returns
  have hlocks := B.notSynchronized
  have hts := atoms_spec (ws := wsX3_at) B.pre
  have hown : s.vm.findClass RX3 = some m.cls := findClass_of_methodNamed B.named
  have hiX3 : ∀ w ∈ u_ws RX3 TX3 3, w ∈ wsX3_at := by decide +kernel
  have fl23 := hts (.fieldLink RX3 23 "HalfScales$Sheet" "size" "I") (by decide +kernel)
  have fl9 := hts (.fieldLink RX3 9 "HalfScales$Sheet" "row" "[I") (by decide +kernel)
  have iniX7 := hts (.initialized RX7) (by decide +kernel)
  have st_X7_within := hts (.static yX7_within) (by decide +kernel)
  subst hsz
  have hD := hD0.self (sz := s.heap.size)
  generalize hAe : va_A [(q, .inr (2, [.ref q_row, .int q_la, .int (nI q_z)])), (q_row, .inl (k 0, 40, .inl (rf)))] s.heap.size = A at hD ⊢
  have hA : ∀ q : Nat, s.heap.size ≤ q → A q := fun q h => by rw [← hAe]; exact Or.inr h
  have hS : va_S A s.heap s.heap [] := va_S.rf
  have hl := lv_entry ([.ref q, .int i]) (n := 2) (Nat.le_of_ble_eq_true rfl)
  rw [lg_entry_eq]
  generalize (lg_sl ([.ref q, .int i]) ++ List.replicate (2 - (lg_sl ([.ref q, .int i])).length) Slot.unset).toArray = ls at hl ⊢
  have hl : lv_has ls 2 [(0, .ref q), (1, .int i)] := hl
  have hP : va_P D vwCl [(q, .inr (2, [.ref q_row, .int q_la, .int (nI q_z)])), (q_row, .inl (k 0, 40, .inl (rf)))] s.heap := hP
  refine lv_iload_n hx hb dX3_at_0 rfl (lv_at hl 1 rfl) ?_
  refine lv_iconst (v := 0) hx hb dX3_at_1 (by decide) ?_
  refine lv_aload_n hx hb dX3_at_2 rfl (lv_at hl 0 rfl) ?_
  refine va_get (D := D) (ci := 2) (v := .int (nI q_z)) (C := RX3) (T := TX3) (N := 3) hx hb hts hiX3 hown hK hP 0 rfl rfl 2 (by decide) fl23 (fun _ h9 => h9) rfl dX3_at_3 ?_
  refine lv_iconst (v := 1) hx hb dX3_at_6 (by decide) ?_
  refine lv_isub hx hb dX3_at_7 ?_
  refine hs_pi (va_runSN (As := [.int i, .int 0, .int ((nI q_z) - 1)]) (rest := []) ⟨hx, hb, hml, hown, hts⟩ (g_within l D k _ i 0 ((nI q_z) - 1)) ⟨(va_cnB 3 hts gX3_at_X7_within_n17 rfl rfl rfl hN.2.2.2.2.2.2.2.2.1 iniX7 (by decide +kernel) ⟨Nat.le_of_ble_eq_true rfl, Nat.le_of_ble_eq_true rfl⟩), st_X7_within, trivial⟩ (hs_preS hK hN (hs_subP (w := []) hP [] rfl) (hD.sub (ws' := []) [] (by decide) rfl)) rfl rfl hl.1 rfl (lv_room (Nat.le_of_ble_eq_true rfl)) dX3_at_8 ⟨Nat.le_of_ble_eq_true rfl, Nat.le_of_ble_eq_true rfl⟩) hP hD hS hA (fun r_1 u_3 H locs hw_2 hP hS => ?_)
  refine hs_topi (hsb (hsin i 0 ((nI q_z) - 1))) hw_2 ?_
  refine lv_if_eq (tgt := 23) hx hb dX3_at_11 (by decide) (fun c_4 => ?_) (fun c_4 => ?_)
  · refine lv_iconst (v := 0) hx hb dX3_at_23 (by decide) ?_
    exact hs_iret hx hb hr hlocks hK hP hD hS () [0, 1] rfl (by decide) dX3_at_24 (trivial)
  · refine lv_aload_n hx hb dX3_at_14 rfl (lv_at hl 0 rfl) ?_
    refine va_get (D := D) (ci := 2) (v := .ref q_row) (C := RX3) (T := TX3) (N := 3) hx hb hts hiX3 hown hK hP 0 rfl rfl 0 (by decide) fl9 (fun _ h9 => h9) rfl dX3_at_15 ?_
    refine lv_iload_n hx hb dX3_at_18 rfl (lv_at hl 1 rfl) ?_
    refine va_iald hx hb hK hP 1 0 rfl rfl (hslt_vp (hs_nb (by have f0 := c_4; rw [hslt_in (show q_z < 2 ^ 30 by omega)] at f0; exact f0)) (by omega)) dX3_at_19 ?_
    refine lv_goto (tgt := 24) hx hb dX3_at_20 (by decide) ?_
    exact hs_iret hx hb hr hlocks hK hP hD hS () [0, 1] rfl (by decide) dX3_at_24 (trivial)

set_option maxHeartbeats 4000000 in
set_option maxRecDepth 100000 in
theorem g_put (l : Launch) (D : va_G) (k : Nat → ClassId) (sz : Nat) (q : Nat) (q_row : Nat) (q_la : Int32) (q_z : Nat) (i : Nat) (v : Int32) (rf : Nat → Int32) (hi : i < 40) : MV l yX3_put wsX3_put ({ frames := 0, cells := 0, slots := 0, locals := 0 }) D k [.ref q, .int (nI i), .int v] [(q, .inr (2, [.ref q_row, .int q_la, .int (nI q_z)])), (q_row, .inl (k 0, 40, .inl (rf)))] sz (fun (u : Nat → Int32) => True) (fun (u : Nat → Int32) => [(q, .inr (2, [.ref q_row, .int q_la, .int (nI q_z)])), (q_row, .inl (k 0, 40, .inl (u)))]) := by
  refine Met.ofW (cc := cX3_put) (maxL := 3) (ret := none) (by decide) rfl ?_
  intro p e s m args below meth c s₁ B hml hv
  obtain ⟨rfl, hsz, hP, hK, hD0, hN⟩ := hv
  have hx := B.exec
  have hb := B.bytes
  have hr := B.returns
  have hlocks := B.notSynchronized
  have hts := atoms_spec (ws := wsX3_put) B.pre
  have hown : s.vm.findClass RX3 = some m.cls := findClass_of_methodNamed B.named
  have hiX3 : ∀ w ∈ u_ws RX3 TX3 3, w ∈ wsX3_put := by decide +kernel
  have fl13 := hts (.fieldLink RX3 13 "HalfScales$Sheet" "laneOf" "I") (by decide +kernel)
  have fl9 := hts (.fieldLink RX3 9 "HalfScales$Sheet" "row" "[I") (by decide +kernel)
  subst hsz
  have hD := hD0.self (sz := s.heap.size)
  generalize hAe : va_A [(q, .inr (2, [.ref q_row, .int q_la, .int (nI q_z)])), (q_row, .inl (k 0, 40, .inl (rf)))] s.heap.size = A at hD ⊢
  have hA : ∀ q : Nat, s.heap.size ≤ q → A q := fun q h => by rw [← hAe]; exact Or.inr h
  have hS : va_S A s.heap s.heap [] := va_S.rf
  have hl := lv_entry ([.ref q, .int (nI i), .int v]) (n := 3) (Nat.le_of_ble_eq_true rfl)
  rw [lg_entry_eq]
  generalize (lg_sl ([.ref q, .int (nI i), .int v]) ++ List.replicate (3 - (lg_sl ([.ref q, .int (nI i), .int v])).length) Slot.unset).toArray = ls at hl ⊢
  have hl : lv_has ls 3 [(0, .ref q), (1, .int (nI i)), (2, .int v)] := hl
  have hP : va_P D vwCl [(q, .inr (2, [.ref q_row, .int q_la, .int (nI q_z)])), (q_row, .inl (k 0, 40, .inl (rf)))] s.heap := hP
  refine lv_aload_n hx hb dX3_put_0 rfl (lv_at hl 0 rfl) ?_
  refine va_get (D := D) (ci := 2) (v := .int q_la) (C := RX3) (T := TX3) (N := 3) hx hb hts hiX3 hown hK hP 0 rfl rfl 1 (by decide) fl13 (fun _ h9 => h9) rfl dX3_put_1 ?_
  refine lv_if_ne (tgt := 18) hx hb dX3_put_4 (by decide) (fun c_1 => ?_) (fun c_1 => ?_)
  · refine lv_aload_n hx hb dX3_put_18 rfl (lv_at hl 0 rfl) ?_
    refine va_get (D := D) (ci := 2) (v := .int q_la) (C := RX3) (T := TX3) (N := 3) hx hb hts hiX3 hown hK hP 0 rfl rfl 1 (by decide) fl13 (fun _ h9 => h9) rfl dX3_put_19 ?_
    refine lv_iconst (v := 1) hx hb dX3_put_22 (by decide) ?_
    refine lv_icmp_ne (tgt := 37) hx hb dX3_put_23 (by decide) (fun c_2 => ?_) (fun c_2 => ?_)
    · refine lv_aload_n hx hb dX3_put_37 rfl (lv_at hl 0 rfl) ?_
      refine va_get (D := D) (ci := 2) (v := .ref q_row) (C := RX3) (T := TX3) (N := 3) hx hb hts hiX3 hown hK hP 0 rfl rfl 0 (by decide) fl9 (fun _ h9 => h9) rfl dX3_put_38 ?_
      refine lv_iload_n hx hb dX3_put_41 rfl (lv_at hl 1 rfl) ?_
      refine lv_iload_n hx hb dX3_put_42 rfl (lv_at hl 2 rfl) ?_
      refine va_iast hx hb hK hP hD hS 1 0 rfl rfl (vp_in_nI (show i < 40 by omega) (by decide)) dX3_put_43 (fun H locs hP hD hS => ?_)
      have hP : va_P D vwCl [(q, .inr (2, [.ref q_row, .int q_la, .int (nI q_z)])), (q_row, .inl (k 0, 40, .inl (upd rf ((nI i).toNatClampNeg) v)))] H := hP
      have hD : va_D A [(q, .inr (2, [.ref q_row, .int q_la, .int (nI q_z)])), (q_row, .inl (k 0, 40, .inl (upd rf ((nI i).toNatClampNeg) v)))] := hD
      exact hs_vret hx hb hr hlocks hK hP hD hS (upd rf ((nI i).toNatClampNeg) v) [0, 1] rfl (by decide) dX3_put_44 (trivial)
    · refine lv_aload_n hx hb dX3_put_26 rfl (lv_at hl 0 rfl) ?_
      refine va_get (D := D) (ci := 2) (v := .ref q_row) (C := RX3) (T := TX3) (N := 3) hx hb hts hiX3 hown hK hP 0 rfl rfl 0 (by decide) fl9 (fun _ h9 => h9) rfl dX3_put_27 ?_
      refine lv_iload_n hx hb dX3_put_30 rfl (lv_at hl 1 rfl) ?_
      refine lv_iload_n hx hb dX3_put_31 rfl (lv_at hl 2 rfl) ?_
      refine lv_i2s hx hb dX3_put_32 rfl ?_
      refine va_iast hx hb hK hP hD hS 1 0 rfl rfl (vp_in_nI (show i < 40 by omega) (by decide)) dX3_put_33 (fun H locs hP hD hS => ?_)
      have hP : va_P D vwCl [(q, .inr (2, [.ref q_row, .int q_la, .int (nI q_z)])), (q_row, .inl (k 0, 40, .inl (upd rf ((nI i).toNatClampNeg) (((v) : Int32).toInt16.toInt32))))] H := hP
      have hD : va_D A [(q, .inr (2, [.ref q_row, .int q_la, .int (nI q_z)])), (q_row, .inl (k 0, 40, .inl (upd rf ((nI i).toNatClampNeg) (((v) : Int32).toInt16.toInt32))))] := hD
      refine lv_goto (tgt := 44) hx hb dX3_put_34 (by decide) ?_
      exact hs_vret hx hb hr hlocks hK hP hD hS (upd rf ((nI i).toNatClampNeg) (((v) : Int32).toInt16.toInt32)) [0, 1] rfl (by decide) dX3_put_44 (trivial)
  · refine lv_aload_n hx hb dX3_put_7 rfl (lv_at hl 0 rfl) ?_
    refine va_get (D := D) (ci := 2) (v := .ref q_row) (C := RX3) (T := TX3) (N := 3) hx hb hts hiX3 hown hK hP 0 rfl rfl 0 (by decide) fl9 (fun _ h9 => h9) rfl dX3_put_8 ?_
    refine lv_iload_n hx hb dX3_put_11 rfl (lv_at hl 1 rfl) ?_
    refine lv_iload_n hx hb dX3_put_12 rfl (lv_at hl 2 rfl) ?_
    refine lv_i2b hx hb dX3_put_13 rfl ?_
    refine va_iast hx hb hK hP hD hS 1 0 rfl rfl (vp_in_nI (show i < 40 by omega) (by decide)) dX3_put_14 (fun H locs hP hD hS => ?_)
    have hP : va_P D vwCl [(q, .inr (2, [.ref q_row, .int q_la, .int (nI q_z)])), (q_row, .inl (k 0, 40, .inl (upd rf ((nI i).toNatClampNeg) (((v) : Int32).toInt8.toInt32))))] H := hP
    have hD : va_D A [(q, .inr (2, [.ref q_row, .int q_la, .int (nI q_z)])), (q_row, .inl (k 0, 40, .inl (upd rf ((nI i).toNatClampNeg) (((v) : Int32).toInt8.toInt32))))] := hD
    refine lv_goto (tgt := 44) hx hb dX3_put_15 (by decide) ?_
    exact hs_vret hx hb hr hlocks hK hP hD hS (upd rf ((nI i).toNatClampNeg) (((v) : Int32).toInt8.toInt32)) [0, 1] rfl (by decide) dX3_put_44 (trivial)
