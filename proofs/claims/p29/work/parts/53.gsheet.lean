set_option maxHeartbeats 4000000 in
set_option maxRecDepth 100000 in
theorem g_isLane (l : Launch) (D : va_G) (k : Nat → ClassId) (sz : Nat) (v : Int32)  : MI l yX3_isLane wsX3_isLane ({ frames := 1, cells := 0, slots := 0, locals := 22 }) D k [.int v] [] sz (fun (r : Int32) (u : Unit) => r = hsb (hsin v 0 2)) (fun (u : Unit) => []) := by
  refine Met.ofW (cc := cX3_isLane) (maxL := 1) (ret := (some .boolean)) hpn_X3 rfl ?_
  intro p e s m args below meth c s₁ B hml hv
  obtain ⟨rfl, hsz, hP, hK, hD0, hN⟩ := hv
  have hx := B.exec
  have hb := B.bytes
  have hr := B.returns
  have hlocks := B.notSynchronized
  have hts := atoms_spec (ws := wsX3_isLane) B.pre
  have hown := findClass_of_methodNamed B.named
  have hown : s.vm.findClass RX3 = some m.cls := hown
  have iniX7 := hts (.initialized RX7) (List.mem_cons_of_mem _ (hs_inG 1 1 rfl rfl))
  have st_X7_within := hts (.static yX7_within) (List.mem_cons_of_mem _ (hs_inG 2 11 rfl rfl))
  subst hsz
  have hD := hD0.self (sz := s.heap.size)
  generalize hAe : va_A [] s.heap.size = A at hD ⊢
  have hA : ∀ q : Nat, s.heap.size ≤ q → A q := fun q h => by rw [← hAe]; exact Or.inr h
  have hS : va_S A s.heap s.heap [] := va_S.rf
  have hl := lv_entry ([.int v]) (n := 1) (Nat.le_of_ble_eq_true rfl)
  rw [lg_entry_eq]
  generalize (lg_sl ([.int v]) ++ List.replicate (1 - (lg_sl ([.int v])).length) Slot.unset).toArray = ls at hl ⊢
  have hl : lv_has ls 1 [(0, .int v)] := hl
  have hP : va_P D vwCl [] s.heap := hP
  refine lv_iload_n hx hb dX3_isLane_0 rfl (lv_at hl 0 rfl) ?_
  refine lv_iconst (v := 0) hx hb dX3_isLane_1 hki_0 ?_
  refine lv_iconst (v := 2) hx hb dX3_isLane_2 hki_2 ?_
  refine hs_pi (va_runSN (As := [.int v, .int 0, .int 2]) (rest := []) ⟨hx, hb, hml, hown, hts⟩ (g_within l D k _ v 0 2) ⟨(va_cnB 3 hts gX3_isLane_X7_within_n17 rfl rfl rfl hN.2.2.2.2.2.2.2.2.1 iniX7 hq_X7_within ⟨Nat.le_of_ble_eq_true rfl, Nat.le_of_ble_eq_true rfl⟩), st_X7_within, trivial⟩ (hs_preS hK hN (hs_subP (w := []) hP [] rfl) (hD.sub (ws' := []) [] rfl rfl)) rfl rfl hl.1 rfl (lv_room (Nat.le_of_ble_eq_true rfl)) dX3_isLane_3 ⟨Nat.le_of_ble_eq_true rfl, Nat.le_of_ble_eq_true rfl⟩) hP hD hS hA (fun r_1 u_3 H locs hw_2 hP hS => ?_)
  refine hs_topi (hsb (hsin v 0 2)) hw_2 ?_
  exact hs_zret hx hb hr hlocks hK hP hD hS () [] rfl (hs_upnd rfl) dX3_isLane_6 (hsb_n _) (rfl)

set_option maxHeartbeats 4000000 in
set_option maxRecDepth 100000 in
theorem g_isNothing (l : Launch) (D : va_G) (k : Nat → ClassId) (sz : Nat) (q : Nat) (q_row : Nat) (q_la : Int32) (q_z : Nat)  : MI l yX3_isNothing wsX3_isNothing ({ frames := 0, cells := 0, slots := 0, locals := 0 }) D k [.ref q] [oq2 q q_row q_la (nI q_z)] sz (fun (r : Int32) (u : Unit) => r = hsb (decide (q_la = -1))) (fun (u : Unit) => [oq2 q q_row q_la (nI q_z)]) := by
  refine Met.ofW (cc := cX3_isNothing) (maxL := 1) (ret := (some .boolean)) hpn_X3 rfl ?_
  intro p e s m args below meth c s₁ B hml hv
  obtain ⟨rfl, hsz, hP, hK, hD0, hN⟩ := hv
  have hx := B.exec
  have hb := B.bytes
  have hr := B.returns
  have hlocks := B.notSynchronized
  have hts := atoms_spec (ws := wsX3_isNothing) B.pre
  have hown := findClass_of_methodNamed B.named
  have hown : s.vm.findClass RX3 = some m.cls := hown
  have hiX3 : ∀ w ∈ u_ws RX3 TX3 3, w ∈ wsX3_isNothing := fun w9 hw9 => List.mem_cons_of_mem _ (igX3 w9 hw9)
  have fl13 := hts (.fieldLink RX3 13 "HalfScales$Sheet" "laneOf" "I") (List.mem_cons_of_mem _ (hs_inG 1 205 rfl rfl))
  subst hsz
  have hD := hD0.self (sz := s.heap.size)
  generalize hAe : va_A [oq2 q q_row q_la (nI q_z)] s.heap.size = A at hD ⊢
  have hA : ∀ q : Nat, s.heap.size ≤ q → A q := fun q h => by rw [← hAe]; exact Or.inr h
  have hS : va_S A s.heap s.heap [] := va_S.rf
  have hl := lv_entry ([.ref q]) (n := 1) (Nat.le_of_ble_eq_true rfl)
  rw [lg_entry_eq]
  generalize (lg_sl ([.ref q]) ++ List.replicate (1 - (lg_sl ([.ref q])).length) Slot.unset).toArray = ls at hl ⊢
  have hl : lv_has ls 1 [(0, .ref q)] := hl
  have hP : va_P D vwCl [oq2 q q_row q_la (nI q_z)] s.heap := hP
  refine lv_aload_n hx hb dX3_isNothing_0 rfl (lv_at hl 0 rfl) ?_
  refine va_get (D := D) (ci := 2) (v := .int q_la) (C := RX3) (T := TX3) (N := 3) hx hb hts hiX3 hown hK hP 0 rfl rfl 1 (Nat.le_of_ble_eq_true rfl) fl13 (fun _ h9 => h9) rfl dX3_isNothing_1 ?_
  refine lv_iconst (v := (-1)) hx hb dX3_isNothing_4 hki_m1 ?_
  refine lv_icmp_ne (tgt := 12) hx hb dX3_isNothing_5 rfl (fun c_1 => ?_) (fun c_1 => ?_)
  · refine lv_iconst (v := 0) hx hb dX3_isNothing_12 hki_0 ?_
    exact hs_zret hx hb hr hlocks hK hP hD hS () [0] rfl (hs_upnd rfl) dX3_isNothing_13 rfl ((congrArg hsb (decide_eq_false c_1)).symm)
  · refine lv_iconst (v := 1) hx hb dX3_isNothing_8 hki_1 ?_
    refine lv_goto (tgt := 13) hx hb dX3_isNothing_9 rfl ?_
    exact hs_zret hx hb hr hlocks hK hP hD hS () [0] rfl (hs_upnd rfl) dX3_isNothing_13 rfl ((congrArg hsb (decide_eq_true c_1)).symm)

set_option maxHeartbeats 4000000 in
set_option maxRecDepth 100000 in
theorem g_faultAt (l : Launch) (D : va_G) (k : Nat → ClassId) (sz : Nat) (q : Nat) (q_row : Nat) (q_la : Int32) (q_z : Nat) (i : Int32) (hz : q_z ≤ 40) : MI l yX3_faultAt wsX3_faultAt ({ frames := 1, cells := 0, slots := 0, locals := 22 }) D k [.ref q, .int i] [oq2 q q_row q_la (nI q_z)] sz (fun (r : Int32) (u : Unit) => r = (if q_la = -1 then 1 else if hslt i q_z then 0 else 2)) (fun (u : Unit) => [oq2 q q_row q_la (nI q_z)]) := by
  refine Met.ofW (cc := cX3_faultAt) (maxL := 2) (ret := (some .int)) hpn_X3 rfl ?_
  intro p e s m args below meth c s₁ B hml hv
  obtain ⟨rfl, hsz, hP, hK, hD0, hN⟩ := hv
  have hx := B.exec
  have hb := B.bytes
  have hr := B.returns
  have hlocks := B.notSynchronized
  have hts := atoms_spec (ws := wsX3_faultAt) B.pre
  have hown := findClass_of_methodNamed B.named
  have hown : s.vm.findClass RX3 = some m.cls := hown
  have hiX3 : ∀ w ∈ u_ws RX3 TX3 3, w ∈ wsX3_faultAt := fun w9 hw9 => List.mem_cons_of_mem _ (igX3 w9 hw9)
  have fl23 := hts (.fieldLink RX3 23 "HalfScales$Sheet" "size" "I") (List.mem_cons_of_mem _ (hs_inG 1 206 rfl rfl))
  have iniX7 := hts (.initialized RX7) (List.mem_cons_of_mem _ (hs_inG 1 1 rfl rfl))
  have st_X7_within := hts (.static yX7_within) (List.mem_cons_of_mem _ (hs_inG 2 11 rfl rfl))
  subst hsz
  have hD := hD0.self (sz := s.heap.size)
  generalize hAe : va_A [oq2 q q_row q_la (nI q_z)] s.heap.size = A at hD ⊢
  have hA : ∀ q : Nat, s.heap.size ≤ q → A q := fun q h => by rw [← hAe]; exact Or.inr h
  have hS : va_S A s.heap s.heap [] := va_S.rf
  have hl := lv_entry ([.ref q, .int i]) (n := 2) (Nat.le_of_ble_eq_true rfl)
  rw [lg_entry_eq]
  generalize (lg_sl ([.ref q, .int i]) ++ List.replicate (2 - (lg_sl ([.ref q, .int i])).length) Slot.unset).toArray = ls at hl ⊢
  have hl : lv_has ls 2 [(0, .ref q), (1, .int i)] := hl
  have hP : va_P D vwCl [oq2 q q_row q_la (nI q_z)] s.heap := hP
  refine lv_aload_n hx hb dX3_faultAt_0 rfl (lv_at hl 0 rfl) ?_
  refine hs_ciM (va_runV (As := []) (rest := []) ⟨hx, hb, hml, hown, hts⟩ (g_isNothing l D k _ q q_row q_la q_z) (cwV 0 hts gX3_faultAt_X3_isNothing rfl rfl rfl ⟨rfl, hq_X3_isNothing⟩ ⟨Nat.le_of_ble_eq_true rfl, Nat.le_of_ble_eq_true rfl⟩) (hs_preV hK hN (hs_subP (w := [_]) hP [0] rfl) (hD.sub (ws' := [_]) [0] (hs_upnd rfl) rfl) (ci := 2) (q0 := 0) rfl rfl) rfl rfl hl.1 rfl (lv_room (Nat.le_of_ble_eq_true rfl)) dX3_faultAt_1 ⟨Nat.le_of_ble_eq_true rfl, Nat.le_of_ble_eq_true rfl⟩) hP hD hS hA [false] [] [_] rfl [0] rfl [0] (fun u_3 => [_]) (fun _ => rfl) (hs_upnd rfl) [false] (fun u_3 => [_]) (fun _ => rfl) (fun r_1 u_3 H locs hw_2 hP hD hS => ?_)
  refine hs_topi (hsb (decide (q_la = -1))) hw_2 ?_
  refine lv_if_eq (tgt := 9) hx hb dX3_faultAt_4 rfl (fun c_4 => ?_) (fun c_4 => ?_)
  · refine lv_iload_n hx hb dX3_faultAt_9 rfl (lv_at hl 1 rfl) ?_
    refine lv_iconst (v := 0) hx hb dX3_faultAt_10 hki_0 ?_
    refine lv_aload_n hx hb dX3_faultAt_11 rfl (lv_at hl 0 rfl) ?_
    refine va_get (D := D) (ci := 2) (v := .int (nI q_z)) (C := RX3) (T := TX3) (N := 3) hx hb hts hiX3 hown hK hP 0 rfl rfl 2 (Nat.le_of_ble_eq_true rfl) fl23 (fun _ h9 => h9) rfl dX3_faultAt_12 ?_
    refine lv_iconst (v := 1) hx hb dX3_faultAt_15 hki_1 ?_
    refine lv_isub hx hb dX3_faultAt_16 ?_
    refine hs_pi (va_runSN (As := [.int i, .int 0, .int ((nI q_z) - 1)]) (rest := []) ⟨hx, hb, hml, hown, hts⟩ (g_within l D k _ i 0 ((nI q_z) - 1)) ⟨(va_cnB 3 hts gX3_faultAt_X7_within_n17 rfl rfl rfl hN.2.2.2.2.2.2.2.2.1 iniX7 hq_X7_within ⟨Nat.le_of_ble_eq_true rfl, Nat.le_of_ble_eq_true rfl⟩), st_X7_within, trivial⟩ (hs_preS hK hN (hs_subP (w := []) hP [] rfl) (hD.sub (ws' := []) [] rfl rfl)) rfl rfl hl.1 rfl (lv_room (Nat.le_of_ble_eq_true rfl)) dX3_faultAt_17 ⟨Nat.le_of_ble_eq_true rfl, Nat.le_of_ble_eq_true rfl⟩) hP hD hS hA (fun r_5 u_7 H locs hw_6 hP hS => ?_)
    refine hs_topi (hsb (hsin i 0 ((nI q_z) - 1))) hw_6 ?_
    refine lv_if_eq (tgt := 27) hx hb dX3_faultAt_20 rfl (fun c_8 => ?_) (fun c_8 => ?_)
    · refine lv_iconst (v := 2) hx hb dX3_faultAt_27 hki_2 ?_
      exact hs_iret hx hb hr hlocks hK hP hD hS () [0] rfl (hs_upnd rfl) dX3_faultAt_28 (by have f0 := c_4; have f1 := c_8; simp only [hslt_in (show q_z < 2 ^ 30 by omega), hsb_0, hsb_1, decide_eq_true_eq, decide_eq_false_iff_not] at f0 f1; simp [f0, f1])
    · refine lv_iconst (v := 0) hx hb dX3_faultAt_23 hki_0 ?_
      refine lv_goto (tgt := 28) hx hb dX3_faultAt_24 rfl ?_
      exact hs_iret hx hb hr hlocks hK hP hD hS () [0] rfl (hs_upnd rfl) dX3_faultAt_28 (by have f0 := c_4; have f1 := c_8; simp only [hslt_in (show q_z < 2 ^ 30 by omega), hsb_0, hsb_1, decide_eq_true_eq, decide_eq_false_iff_not] at f0 f1; simp [f0, f1])
  · refine lv_iconst (v := 1) hx hb dX3_faultAt_7 hki_1 ?_
    exact hs_iret hx hb hr hlocks hK hP hD hS () [0] rfl (hs_upnd rfl) dX3_faultAt_8 (by have f0 := c_4; simp only [hslt_in (show q_z < 2 ^ 30 by omega), hsb_0, hsb_1, decide_eq_true_eq, decide_eq_false_iff_not] at f0; simp [f0])

theorem hslt_vp {v : Int32} {n N : Nat} (h : hslt v n = true) (hn : n ≤ N) : vp_in v N := by
  simp only [hslt, Bool.and_eq_true, decide_eq_true_eq] at h
  exact vp_in_iff.mpr ⟨h.1, by omega⟩
