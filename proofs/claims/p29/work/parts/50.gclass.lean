set_option maxHeartbeats 4000000 in
set_option maxRecDepth 100000 in
theorem g_within (l : Launch) (D : va_G) (k : Nat → ClassId) (sz : Nat) (v : Int32) (lo : Int32) (hi : Int32)  : MI l yX7_within wsX7_within ({ frames := 0, cells := 0, slots := 0, locals := 0 }) D k [.int v, .int lo, .int hi] [] sz (fun (r : Int32) (u : Unit) => r = hsb (hsin v lo hi)) (fun (u : Unit) => []) := by
  refine Met.ofW (cc := cX7_within) (maxL := 3) (ret := (some .boolean)) hpn_X7 rfl ?_
  intro p e s m args below meth c s₁ B hml hv
  obtain ⟨rfl, hsz, hP, hK, hD0, hN⟩ := hv
  have hx := B.exec
  have hb := B.bytes
  have hr := B.returns
  have hlocks := B.notSynchronized
  have hts := atoms_spec (ws := wsX7_within) B.pre
  have hown := findClass_of_methodNamed B.named
  have hown : s.vm.findClass RX7 = some m.cls := hown
  subst hsz
  have hD := hD0.self (sz := s.heap.size)
  generalize hAe : va_A [] s.heap.size = A at hD ⊢
  have hA : ∀ q : Nat, s.heap.size ≤ q → A q := fun q h => by rw [← hAe]; exact Or.inr h
  have hS : va_S A s.heap s.heap [] := va_S.rf
  have hl := lv_entry ([.int v, .int lo, .int hi]) (n := 3) (Nat.le_of_ble_eq_true rfl)
  rw [lg_entry_eq]
  generalize (lg_sl ([.int v, .int lo, .int hi]) ++ List.replicate (3 - (lg_sl ([.int v, .int lo, .int hi])).length) Slot.unset).toArray = ls at hl ⊢
  have hl : lv_has ls 3 [(0, .int v), (1, .int lo), (2, .int hi)] := hl
  have hP : va_P D vwCl [] s.heap := hP
  refine lv_iload_n hx hb dX7_within_0 rfl (lv_at hl 0 rfl) ?_
  refine lv_iload_n hx hb dX7_within_1 rfl (lv_at hl 1 rfl) ?_
  refine lv_icmp_lt (tgt := 14) hx hb dX7_within_2 rfl (fun c_1 => ?_) (fun c_1 => ?_)
  · refine lv_iconst (v := 0) hx hb dX7_within_14 hki_0 ?_
    exact hs_zret hx hb hr hlocks hK hP hD hS () [] rfl (hs_upnd rfl) dX7_within_15 rfl (hsin_f1 c_1)
  · refine lv_iload_n hx hb dX7_within_5 rfl (lv_at hl 0 rfl) ?_
    refine lv_iload_n hx hb dX7_within_6 rfl (lv_at hl 2 rfl) ?_
    refine lv_icmp_gt (tgt := 14) hx hb dX7_within_7 rfl (fun c_2 => ?_) (fun c_2 => ?_)
    · refine lv_iconst (v := 0) hx hb dX7_within_14 hki_0 ?_
      exact hs_zret hx hb hr hlocks hK hP hD hS () [] rfl (hs_upnd rfl) dX7_within_15 rfl (hsin_f2 c_2)
    · refine lv_iconst (v := 1) hx hb dX7_within_10 hki_1 ?_
      refine lv_goto (tgt := 15) hx hb dX7_within_11 rfl ?_
      exact hs_zret hx hb hr hlocks hK hP hD hS () [] rfl (hs_upnd rfl) dX7_within_15 rfl (hsin_t c_1 c_2)

set_option maxHeartbeats 4000000 in
set_option maxRecDepth 100000 in
theorem g_halfUp (l : Launch) (D : va_G) (k : Nat → ClassId) (sz : Nat) (v : Int32)  : MI l yX7_halfUp wsX7_halfUp ({ frames := 0, cells := 0, slots := 0, locals := 0 }) D k [.int v] [] sz (fun (r : Int32) (u : Unit) => r = (v + 1) / 2) (fun (u : Unit) => []) := by
  refine Met.ofW (cc := cX7_halfUp) (maxL := 1) (ret := (some .int)) hpn_X7 rfl ?_
  intro p e s m args below meth c s₁ B hml hv
  obtain ⟨rfl, hsz, hP, hK, hD0, hN⟩ := hv
  have hx := B.exec
  have hb := B.bytes
  have hr := B.returns
  have hlocks := B.notSynchronized
  have hts := atoms_spec (ws := wsX7_halfUp) B.pre
  have hown := findClass_of_methodNamed B.named
  have hown : s.vm.findClass RX7 = some m.cls := hown
  subst hsz
  have hD := hD0.self (sz := s.heap.size)
  generalize hAe : va_A [] s.heap.size = A at hD ⊢
  have hA : ∀ q : Nat, s.heap.size ≤ q → A q := fun q h => by rw [← hAe]; exact Or.inr h
  have hS : va_S A s.heap s.heap [] := va_S.rf
  have hl := lv_entry ([.int v]) (n := 1) (Nat.le_of_ble_eq_true rfl)
  rw [lg_entry_eq]
  generalize (lg_sl ([.int v]) ++ List.replicate (1 - (lg_sl ([.int v])).length) Slot.unset).toArray = ls at hl ⊢
  have hl : lv_has ls 1 [(0, .int v)] := hl
  have hP : va_P D vwCl [] s.heap := hP
  refine lv_iload_n hx hb dX7_halfUp_0 rfl (lv_at hl 0 rfl) ?_
  refine lv_iconst (v := 1) hx hb dX7_halfUp_1 hki_1 ?_
  refine lv_iadd hx hb dX7_halfUp_2 ?_
  refine lv_iconst (v := 2) hx hb dX7_halfUp_3 hki_2 ?_
  refine lv_idiv hx hb dX7_halfUp_4 (by decide) ?_
  exact hs_iret hx hb hr hlocks hK hP hD hS () [] rfl (hs_upnd rfl) dX7_halfUp_5 (rfl)

set_option maxHeartbeats 4000000 in
set_option maxRecDepth 100000 in
theorem g_isSheet (l : Launch) (D : va_G) (k : Nat → ClassId) (sz : Nat) (v : Int32)  : MI l yX7_isSheet wsX7_isSheet ({ frames := 1, cells := 0, slots := 0, locals := 22 }) D k [.int v] [] sz (fun (r : Int32) (u : Unit) => r = hsb (hsin v 0 3)) (fun (u : Unit) => []) := by
  refine Met.ofW (cc := cX7_isSheet) (maxL := 1) (ret := (some .boolean)) hpn_X7 rfl ?_
  intro p e s m args below meth c s₁ B hml hv
  obtain ⟨rfl, hsz, hP, hK, hD0, hN⟩ := hv
  have hx := B.exec
  have hb := B.bytes
  have hr := B.returns
  have hlocks := B.notSynchronized
  have hts := atoms_spec (ws := wsX7_isSheet) B.pre
  have hown := findClass_of_methodNamed B.named
  have hown : s.vm.findClass RX7 = some m.cls := hown
  subst hsz
  have hD := hD0.self (sz := s.heap.size)
  generalize hAe : va_A [] s.heap.size = A at hD ⊢
  have hA : ∀ q : Nat, s.heap.size ≤ q → A q := fun q h => by rw [← hAe]; exact Or.inr h
  have hS : va_S A s.heap s.heap [] := va_S.rf
  have hl := lv_entry ([.int v]) (n := 1) (Nat.le_of_ble_eq_true rfl)
  rw [lg_entry_eq]
  generalize (lg_sl ([.int v]) ++ List.replicate (1 - (lg_sl ([.int v])).length) Slot.unset).toArray = ls at hl ⊢
  have hl : lv_has ls 1 [(0, .int v)] := hl
  have hP : va_P D vwCl [] s.heap := hP
  refine lv_iload_n hx hb dX7_isSheet_0 rfl (lv_at hl 0 rfl) ?_
  refine lv_iconst (v := 0) hx hb dX7_isSheet_1 hki_0 ?_
  refine lv_iconst (v := 3) hx hb dX7_isSheet_2 hki_3 ?_
  refine hs_pi (va_runS (As := [.int v, .int 0, .int 3]) (rest := []) ⟨hx, hb, hml, hown, hts⟩ (g_within l D k _ v 0 3) (va_cwS 3 hts gX7_isSheet_X7_within rfl rfl rfl hq_X7_within ⟨Nat.le_of_ble_eq_true rfl, Nat.le_of_ble_eq_true rfl⟩) (hs_preS hK hN (hs_subP (w := []) hP [] rfl) (hD.sub (ws' := []) [] rfl rfl)) rfl rfl hl.1 rfl (lv_room (Nat.le_of_ble_eq_true rfl)) dX7_isSheet_3 ⟨Nat.le_of_ble_eq_true rfl, Nat.le_of_ble_eq_true rfl⟩) hP hD hS hA (fun r_1 u_3 H locs hw_2 hP hS => ?_)
  refine hs_topi (hsb (hsin v 0 3)) hw_2 ?_
  exact hs_zret hx hb hr hlocks hK hP hD hS () [] rfl (hs_upnd rfl) dX7_isSheet_6 (hsb_n _) (rfl)

set_option maxHeartbeats 4000000 in
set_option maxRecDepth 100000 in
theorem g_isCell (l : Launch) (D : va_G) (k : Nat → ClassId) (sz : Nat) (t : Nat) (t_a : Nat → Nat) (t_N : Nat → Nat) (t_J : Nat → Int32) (i : Int32) (hN0 : thN t_N) : MI l yX6_isCell wsX6_isCell ({ frames := 1, cells := 0, slots := 0, locals := 22 }) D k [.ref t, .int i] [oqT t t_a t_N t_J] sz (fun (r : Int32) (u : Unit) => r = hsb (hslt i (t_N 0))) (fun (u : Unit) => [oqT t t_a t_N t_J]) := by
  refine Met.ofW (cc := cX6_isCell) (maxL := 2) (ret := (some .boolean)) hpn_X6 rfl ?_
  intro p e s m args below meth c s₁ B hml hv
  obtain ⟨rfl, hsz, hP, hK, hD0, hN⟩ := hv
  have hx := B.exec
  have hb := B.bytes
  have hr := B.returns
  have hlocks := B.notSynchronized
  have hts := atoms_spec (ws := wsX6_isCell) B.pre
  have hown := findClass_of_methodNamed B.named
  have hown : s.vm.findClass RX6 = some m.cls := hown
  have hiX6 : ∀ w ∈ u_ws RX6 TX6 15, w ∈ wsX6_isCell := fun w9 hw9 => List.mem_cons_of_mem _ (igX6 w9 hw9)
  have fl36 := hts (.fieldLink RX6 36 "HalfScales$Thing" "cellCount" "I") (List.mem_cons_of_mem _ (hs_inG 1 51 rfl rfl))
  have iniX7 := hts (.initialized RX7) (List.mem_cons_of_mem _ (hs_inG 1 1 rfl rfl))
  have st_X7_within := hts (.static yX7_within) (List.mem_cons_of_mem _ (hs_inG 2 11 rfl rfl))
  obtain ⟨I0, I1, ⟨I2, I2b⟩, I3, I4⟩ := hN0
  subst hsz
  have hD := hD0.self (sz := s.heap.size)
  generalize hAe : va_A [oqT t t_a t_N t_J] s.heap.size = A at hD ⊢
  have hA : ∀ q : Nat, s.heap.size ≤ q → A q := fun q h => by rw [← hAe]; exact Or.inr h
  have hS : va_S A s.heap s.heap [] := va_S.rf
  have hl := lv_entry ([.ref t, .int i]) (n := 2) (Nat.le_of_ble_eq_true rfl)
  rw [lg_entry_eq]
  generalize (lg_sl ([.ref t, .int i]) ++ List.replicate (2 - (lg_sl ([.ref t, .int i])).length) Slot.unset).toArray = ls at hl ⊢
  have hl : lv_has ls 2 [(0, .ref t), (1, .int i)] := hl
  have hP : va_P D vwCl [oqT t t_a t_N t_J] s.heap := hP
  refine lv_iload_n hx hb dX6_isCell_0 rfl (lv_at hl 1 rfl) ?_
  refine lv_iconst (v := 0) hx hb dX6_isCell_1 hki_0 ?_
  refine lv_aload_n hx hb dX6_isCell_2 rfl (lv_at hl 0 rfl) ?_
  refine va_get (D := D) (ci := 5) (v := .int (nI (t_N 0))) (C := RX6) (T := TX6) (N := 15) hx hb hts hiX6 hown hK hP 0 rfl rfl 7 (Nat.le_of_ble_eq_true rfl) fl36 (fun _ h9 => h9) rfl dX6_isCell_3 ?_
  refine lv_iconst (v := 1) hx hb dX6_isCell_6 hki_1 ?_
  refine lv_isub hx hb dX6_isCell_7 ?_
  refine hs_pi (va_runSN (As := [.int i, .int 0, .int ((nI (t_N 0)) - 1)]) (rest := []) ⟨hx, hb, hml, hown, hts⟩ (g_within l D k _ i 0 ((nI (t_N 0)) - 1)) ⟨(va_cnB 3 hts gX6_isCell_X7_within_n67 rfl rfl rfl hN.2.2.2.2.2.2.1 iniX7 hq_X7_within ⟨Nat.le_of_ble_eq_true rfl, Nat.le_of_ble_eq_true rfl⟩), st_X7_within, trivial⟩ (hs_preS hK hN (hs_subP (w := []) hP [] rfl) (hD.sub (ws' := []) [] rfl rfl)) rfl rfl hl.1 rfl (lv_room (Nat.le_of_ble_eq_true rfl)) dX6_isCell_8 ⟨Nat.le_of_ble_eq_true rfl, Nat.le_of_ble_eq_true rfl⟩) hP hD hS hA (fun r_1 u_3 H locs hw_2 hP hS => ?_)
  refine hs_topi (hsb (hsin i 0 ((nI (t_N 0)) - 1))) hw_2 ?_
  exact hs_zret hx hb hr hlocks hK hP hD hS () [0] rfl (hs_upnd rfl) dX6_isCell_11 (hsb_n _) (congrArg hsb (hslt_in (by omega)))

set_option maxHeartbeats 4000000 in
set_option maxRecDepth 100000 in
theorem g_isPerson (l : Launch) (D : va_G) (k : Nat → ClassId) (sz : Nat) (t : Nat) (t_a : Nat → Nat) (t_N : Nat → Nat) (t_J : Nat → Int32) (i : Int32) (hN0 : thN t_N) : MI l yX6_isPerson wsX6_isPerson ({ frames := 1, cells := 0, slots := 0, locals := 22 }) D k [.ref t, .int i] [oqT t t_a t_N t_J] sz (fun (r : Int32) (u : Unit) => r = hsb (hslt i (t_N 1))) (fun (u : Unit) => [oqT t t_a t_N t_J]) := by
  refine Met.ofW (cc := cX6_isPerson) (maxL := 2) (ret := (some .boolean)) hpn_X6 rfl ?_
  intro p e s m args below meth c s₁ B hml hv
  obtain ⟨rfl, hsz, hP, hK, hD0, hN⟩ := hv
  have hx := B.exec
  have hb := B.bytes
  have hr := B.returns
  have hlocks := B.notSynchronized
  have hts := atoms_spec (ws := wsX6_isPerson) B.pre
  have hown := findClass_of_methodNamed B.named
  have hown : s.vm.findClass RX6 = some m.cls := hown
  have hiX6 : ∀ w ∈ u_ws RX6 TX6 15, w ∈ wsX6_isPerson := fun w9 hw9 => List.mem_cons_of_mem _ (igX6 w9 hw9)
  have fl40 := hts (.fieldLink RX6 40 "HalfScales$Thing" "peopleCount" "I") (List.mem_cons_of_mem _ (hs_inG 1 55 rfl rfl))
  have iniX7 := hts (.initialized RX7) (List.mem_cons_of_mem _ (hs_inG 1 1 rfl rfl))
  have st_X7_within := hts (.static yX7_within) (List.mem_cons_of_mem _ (hs_inG 2 11 rfl rfl))
  obtain ⟨I0, I1, ⟨I2, I2b⟩, I3, I4⟩ := hN0
  subst hsz
  have hD := hD0.self (sz := s.heap.size)
  generalize hAe : va_A [oqT t t_a t_N t_J] s.heap.size = A at hD ⊢
  have hA : ∀ q : Nat, s.heap.size ≤ q → A q := fun q h => by rw [← hAe]; exact Or.inr h
  have hS : va_S A s.heap s.heap [] := va_S.rf
  have hl := lv_entry ([.ref t, .int i]) (n := 2) (Nat.le_of_ble_eq_true rfl)
  rw [lg_entry_eq]
  generalize (lg_sl ([.ref t, .int i]) ++ List.replicate (2 - (lg_sl ([.ref t, .int i])).length) Slot.unset).toArray = ls at hl ⊢
  have hl : lv_has ls 2 [(0, .ref t), (1, .int i)] := hl
  have hP : va_P D vwCl [oqT t t_a t_N t_J] s.heap := hP
  refine lv_iload_n hx hb dX6_isPerson_0 rfl (lv_at hl 1 rfl) ?_
  refine lv_iconst (v := 0) hx hb dX6_isPerson_1 hki_0 ?_
  refine lv_aload_n hx hb dX6_isPerson_2 rfl (lv_at hl 0 rfl) ?_
  refine va_get (D := D) (ci := 5) (v := .int (nI (t_N 1))) (C := RX6) (T := TX6) (N := 15) hx hb hts hiX6 hown hK hP 0 rfl rfl 8 (Nat.le_of_ble_eq_true rfl) fl40 (fun _ h9 => h9) rfl dX6_isPerson_3 ?_
  refine lv_iconst (v := 1) hx hb dX6_isPerson_6 hki_1 ?_
  refine lv_isub hx hb dX6_isPerson_7 ?_
  refine hs_pi (va_runSN (As := [.int i, .int 0, .int ((nI (t_N 1)) - 1)]) (rest := []) ⟨hx, hb, hml, hown, hts⟩ (g_within l D k _ i 0 ((nI (t_N 1)) - 1)) ⟨(va_cnB 3 hts gX6_isPerson_X7_within_n67 rfl rfl rfl hN.2.2.2.2.2.2.1 iniX7 hq_X7_within ⟨Nat.le_of_ble_eq_true rfl, Nat.le_of_ble_eq_true rfl⟩), st_X7_within, trivial⟩ (hs_preS hK hN (hs_subP (w := []) hP [] rfl) (hD.sub (ws' := []) [] rfl rfl)) rfl rfl hl.1 rfl (lv_room (Nat.le_of_ble_eq_true rfl)) dX6_isPerson_8 ⟨Nat.le_of_ble_eq_true rfl, Nat.le_of_ble_eq_true rfl⟩) hP hD hS hA (fun r_1 u_3 H locs hw_2 hP hS => ?_)
  refine hs_topi (hsb (hsin i 0 ((nI (t_N 1)) - 1))) hw_2 ?_
  exact hs_zret hx hb hr hlocks hK hP hD hS () [0] rfl (hs_upnd rfl) dX6_isPerson_11 (hsb_n _) (congrArg hsb (hslt_in (by omega)))

set_option maxHeartbeats 4000000 in
set_option maxRecDepth 100000 in
theorem g_isCut (l : Launch) (D : va_G) (k : Nat → ClassId) (sz : Nat) (t : Nat) (t_a : Nat → Nat) (t_N : Nat → Nat) (t_J : Nat → Int32) (i : Int32) (hN0 : thN t_N) : MI l yX6_isCut wsX6_isCut ({ frames := 1, cells := 0, slots := 0, locals := 22 }) D k [.ref t, .int i] [oqT t t_a t_N t_J] sz (fun (r : Int32) (u : Unit) => r = hsb (hslt1 i (t_N 0))) (fun (u : Unit) => [oqT t t_a t_N t_J]) := by
  refine Met.ofW (cc := cX6_isCut) (maxL := 2) (ret := (some .boolean)) hpn_X6 rfl ?_
  intro p e s m args below meth c s₁ B hml hv
  obtain ⟨rfl, hsz, hP, hK, hD0, hN⟩ := hv
  have hx := B.exec
  have hb := B.bytes
  have hr := B.returns
  have hlocks := B.notSynchronized
  have hts := atoms_spec (ws := wsX6_isCut) B.pre
  have hown := findClass_of_methodNamed B.named
  have hown : s.vm.findClass RX6 = some m.cls := hown
  have hiX6 : ∀ w ∈ u_ws RX6 TX6 15, w ∈ wsX6_isCut := fun w9 hw9 => List.mem_cons_of_mem _ (igX6 w9 hw9)
  have fl36 := hts (.fieldLink RX6 36 "HalfScales$Thing" "cellCount" "I") (List.mem_cons_of_mem _ (hs_inG 1 51 rfl rfl))
  have iniX7 := hts (.initialized RX7) (List.mem_cons_of_mem _ (hs_inG 1 1 rfl rfl))
  have st_X7_within := hts (.static yX7_within) (List.mem_cons_of_mem _ (hs_inG 2 11 rfl rfl))
  obtain ⟨I0, I1, ⟨I2, I2b⟩, I3, I4⟩ := hN0
  subst hsz
  have hD := hD0.self (sz := s.heap.size)
  generalize hAe : va_A [oqT t t_a t_N t_J] s.heap.size = A at hD ⊢
  have hA : ∀ q : Nat, s.heap.size ≤ q → A q := fun q h => by rw [← hAe]; exact Or.inr h
  have hS : va_S A s.heap s.heap [] := va_S.rf
  have hl := lv_entry ([.ref t, .int i]) (n := 2) (Nat.le_of_ble_eq_true rfl)
  rw [lg_entry_eq]
  generalize (lg_sl ([.ref t, .int i]) ++ List.replicate (2 - (lg_sl ([.ref t, .int i])).length) Slot.unset).toArray = ls at hl ⊢
  have hl : lv_has ls 2 [(0, .ref t), (1, .int i)] := hl
  have hP : va_P D vwCl [oqT t t_a t_N t_J] s.heap := hP
  refine lv_iload_n hx hb dX6_isCut_0 rfl (lv_at hl 1 rfl) ?_
  refine lv_iconst (v := 1) hx hb dX6_isCut_1 hki_1 ?_
  refine lv_aload_n hx hb dX6_isCut_2 rfl (lv_at hl 0 rfl) ?_
  refine va_get (D := D) (ci := 5) (v := .int (nI (t_N 0))) (C := RX6) (T := TX6) (N := 15) hx hb hts hiX6 hown hK hP 0 rfl rfl 7 (Nat.le_of_ble_eq_true rfl) fl36 (fun _ h9 => h9) rfl dX6_isCut_3 ?_
  refine lv_iconst (v := 1) hx hb dX6_isCut_6 hki_1 ?_
  refine lv_isub hx hb dX6_isCut_7 ?_
  refine hs_pi (va_runSN (As := [.int i, .int 1, .int ((nI (t_N 0)) - 1)]) (rest := []) ⟨hx, hb, hml, hown, hts⟩ (g_within l D k _ i 1 ((nI (t_N 0)) - 1)) ⟨(va_cnB 3 hts gX6_isCut_X7_within_n67 rfl rfl rfl hN.2.2.2.2.2.2.1 iniX7 hq_X7_within ⟨Nat.le_of_ble_eq_true rfl, Nat.le_of_ble_eq_true rfl⟩), st_X7_within, trivial⟩ (hs_preS hK hN (hs_subP (w := []) hP [] rfl) (hD.sub (ws' := []) [] rfl rfl)) rfl rfl hl.1 rfl (lv_room (Nat.le_of_ble_eq_true rfl)) dX6_isCut_8 ⟨Nat.le_of_ble_eq_true rfl, Nat.le_of_ble_eq_true rfl⟩) hP hD hS hA (fun r_1 u_3 H locs hw_2 hP hS => ?_)
  refine hs_topi (hsb (hsin i 1 ((nI (t_N 0)) - 1))) hw_2 ?_
  exact hs_zret hx hb hr hlocks hK hP hD hS () [0] rfl (hs_upnd rfl) dX6_isCut_11 (hsb_n _) (congrArg hsb (hslt1_in (by omega)))

set_option maxHeartbeats 4000000 in
set_option maxRecDepth 100000 in
theorem g_isHalf (l : Launch) (D : va_G) (k : Nat → ClassId) (sz : Nat) (t : Nat) (t_a : Nat → Nat) (t_N : Nat → Nat) (t_J : Nat → Int32) (i : Int32) (hN0 : thN t_N) : MI l yX6_isHalf wsX6_isHalf ({ frames := 1, cells := 0, slots := 0, locals := 22 }) D k [.ref t, .int i] [oqT t t_a t_N t_J] sz (fun (r : Int32) (u : Unit) => r = hsb (hslt i (t_N 2))) (fun (u : Unit) => [oqT t t_a t_N t_J]) := by
  refine Met.ofW (cc := cX6_isHalf) (maxL := 2) (ret := (some .boolean)) hpn_X6 rfl ?_
  intro p e s m args below meth c s₁ B hml hv
  obtain ⟨rfl, hsz, hP, hK, hD0, hN⟩ := hv
  have hx := B.exec
  have hb := B.bytes
  have hr := B.returns
  have hlocks := B.notSynchronized
  have hts := atoms_spec (ws := wsX6_isHalf) B.pre
  have hown := findClass_of_methodNamed B.named
  have hown : s.vm.findClass RX6 = some m.cls := hown
  have hiX6 : ∀ w ∈ u_ws RX6 TX6 15, w ∈ wsX6_isHalf := fun w9 hw9 => List.mem_cons_of_mem _ (igX6 w9 hw9)
  have fl52 := hts (.fieldLink RX6 52 "HalfScales$Thing" "halfCount" "I") (List.mem_cons_of_mem _ (hs_inG 1 69 rfl rfl))
  have iniX7 := hts (.initialized RX7) (List.mem_cons_of_mem _ (hs_inG 1 1 rfl rfl))
  have st_X7_within := hts (.static yX7_within) (List.mem_cons_of_mem _ (hs_inG 2 11 rfl rfl))
  obtain ⟨I0, I1, ⟨I2, I2b⟩, I3, I4⟩ := hN0
  subst hsz
  have hD := hD0.self (sz := s.heap.size)
  generalize hAe : va_A [oqT t t_a t_N t_J] s.heap.size = A at hD ⊢
  have hA : ∀ q : Nat, s.heap.size ≤ q → A q := fun q h => by rw [← hAe]; exact Or.inr h
  have hS : va_S A s.heap s.heap [] := va_S.rf
  have hl := lv_entry ([.ref t, .int i]) (n := 2) (Nat.le_of_ble_eq_true rfl)
  rw [lg_entry_eq]
  generalize (lg_sl ([.ref t, .int i]) ++ List.replicate (2 - (lg_sl ([.ref t, .int i])).length) Slot.unset).toArray = ls at hl ⊢
  have hl : lv_has ls 2 [(0, .ref t), (1, .int i)] := hl
  have hP : va_P D vwCl [oqT t t_a t_N t_J] s.heap := hP
  refine lv_iload_n hx hb dX6_isHalf_0 rfl (lv_at hl 1 rfl) ?_
  refine lv_iconst (v := 0) hx hb dX6_isHalf_1 hki_0 ?_
  refine lv_aload_n hx hb dX6_isHalf_2 rfl (lv_at hl 0 rfl) ?_
  refine va_get (D := D) (ci := 5) (v := .int (nI (t_N 2))) (C := RX6) (T := TX6) (N := 15) hx hb hts hiX6 hown hK hP 0 rfl rfl 12 (Nat.le_of_ble_eq_true rfl) fl52 (fun _ h9 => h9) rfl dX6_isHalf_3 ?_
  refine lv_iconst (v := 1) hx hb dX6_isHalf_6 hki_1 ?_
  refine lv_isub hx hb dX6_isHalf_7 ?_
  refine hs_pi (va_runSN (As := [.int i, .int 0, .int ((nI (t_N 2)) - 1)]) (rest := []) ⟨hx, hb, hml, hown, hts⟩ (g_within l D k _ i 0 ((nI (t_N 2)) - 1)) ⟨(va_cnB 3 hts gX6_isHalf_X7_within_n67 rfl rfl rfl hN.2.2.2.2.2.2.1 iniX7 hq_X7_within ⟨Nat.le_of_ble_eq_true rfl, Nat.le_of_ble_eq_true rfl⟩), st_X7_within, trivial⟩ (hs_preS hK hN (hs_subP (w := []) hP [] rfl) (hD.sub (ws' := []) [] rfl rfl)) rfl rfl hl.1 rfl (lv_room (Nat.le_of_ble_eq_true rfl)) dX6_isHalf_8 ⟨Nat.le_of_ble_eq_true rfl, Nat.le_of_ble_eq_true rfl⟩) hP hD hS hA (fun r_1 u_3 H locs hw_2 hP hS => ?_)
  refine hs_topi (hsb (hsin i 0 ((nI (t_N 2)) - 1))) hw_2 ?_
  exact hs_zret hx hb hr hlocks hK hP hD hS () [0] rfl (hs_upnd rfl) dX6_isHalf_11 (hsb_n _) (congrArg hsb (hslt_in (by omega)))

set_option maxHeartbeats 4000000 in
set_option maxRecDepth 100000 in
theorem g_allCells (l : Launch) (D : va_G) (k : Nat → ClassId) (sz : Nat) (t : Nat) (t_a : Nat → Nat) (t_N : Nat → Nat) (t_J : Nat → Int32) (hN0 : thN t_N) : MI l yX6_allCells wsX6_allCells ({ frames := 0, cells := 0, slots := 0, locals := 0 }) D k [.ref t] [oqT t t_a t_N t_J] sz (fun (r : Int32) (u : Unit) => r = nI (2 ^ (t_N 0) - 1)) (fun (u : Unit) => [oqT t t_a t_N t_J]) := by
  refine Met.ofW (cc := cX6_allCells) (maxL := 1) (ret := (some .int)) hpn_X6 rfl ?_
  intro p e s m args below meth c s₁ B hml hv
  obtain ⟨rfl, hsz, hP, hK, hD0, hN⟩ := hv
  have hx := B.exec
  have hb := B.bytes
  have hr := B.returns
  have hlocks := B.notSynchronized
  have hts := atoms_spec (ws := wsX6_allCells) B.pre
  have hown := findClass_of_methodNamed B.named
  have hown : s.vm.findClass RX6 = some m.cls := hown
  have hiX6 : ∀ w ∈ u_ws RX6 TX6 15, w ∈ wsX6_allCells := fun w9 hw9 => List.mem_cons_of_mem _ (igX6 w9 hw9)
  have fl36 := hts (.fieldLink RX6 36 "HalfScales$Thing" "cellCount" "I") (List.mem_cons_of_mem _ (hs_inG 1 51 rfl rfl))
  obtain ⟨I0, I1, ⟨I2, I2b⟩, I3, I4⟩ := hN0
  subst hsz
  have hD := hD0.self (sz := s.heap.size)
  generalize hAe : va_A [oqT t t_a t_N t_J] s.heap.size = A at hD ⊢
  have hA : ∀ q : Nat, s.heap.size ≤ q → A q := fun q h => by rw [← hAe]; exact Or.inr h
  have hS : va_S A s.heap s.heap [] := va_S.rf
  have hl := lv_entry ([.ref t]) (n := 1) (Nat.le_of_ble_eq_true rfl)
  rw [lg_entry_eq]
  generalize (lg_sl ([.ref t]) ++ List.replicate (1 - (lg_sl ([.ref t])).length) Slot.unset).toArray = ls at hl ⊢
  have hl : lv_has ls 1 [(0, .ref t)] := hl
  have hP : va_P D vwCl [oqT t t_a t_N t_J] s.heap := hP
  refine lv_iconst (v := 1) hx hb dX6_allCells_0 hki_1 ?_
  refine lv_aload_n hx hb dX6_allCells_1 rfl (lv_at hl 0 rfl) ?_
  refine va_get (D := D) (ci := 5) (v := .int (nI (t_N 0))) (C := RX6) (T := TX6) (N := 15) hx hb hts hiX6 hown hK hP 0 rfl rfl 7 (Nat.le_of_ble_eq_true rfl) fl36 (fun _ h9 => h9) rfl dX6_allCells_2 ?_
  refine lv_ishl hx hb dX6_allCells_5 ?_
  refine lv_iconst (v := 1) hx hb dX6_allCells_6 hki_1 ?_
  refine lv_isub hx hb dX6_allCells_7 ?_
  exact hs_iret hx hb hr hlocks hK hP hD hS () [0] rfl (hs_upnd rfl) dX6_allCells_8 (by rw [hs_shl (by omega)]; exact pk_sub (b := 1) Nat.one_le_two_pow)

set_option maxHeartbeats 4000000 in
set_option maxRecDepth 100000 in
theorem g_allPeople (l : Launch) (D : va_G) (k : Nat → ClassId) (sz : Nat) (t : Nat) (t_a : Nat → Nat) (t_N : Nat → Nat) (t_J : Nat → Int32) (hN0 : thN t_N) : MI l yX6_allPeople wsX6_allPeople ({ frames := 0, cells := 0, slots := 0, locals := 0 }) D k [.ref t] [oqT t t_a t_N t_J] sz (fun (r : Int32) (u : Unit) => r = nI (2 ^ (t_N 1) - 1)) (fun (u : Unit) => [oqT t t_a t_N t_J]) := by
  refine Met.ofW (cc := cX6_allPeople) (maxL := 1) (ret := (some .int)) hpn_X6 rfl ?_
  intro p e s m args below meth c s₁ B hml hv
  obtain ⟨rfl, hsz, hP, hK, hD0, hN⟩ := hv
  have hx := B.exec
  have hb := B.bytes
  have hr := B.returns
  have hlocks := B.notSynchronized
  have hts := atoms_spec (ws := wsX6_allPeople) B.pre
  have hown := findClass_of_methodNamed B.named
  have hown : s.vm.findClass RX6 = some m.cls := hown
  have hiX6 : ∀ w ∈ u_ws RX6 TX6 15, w ∈ wsX6_allPeople := fun w9 hw9 => List.mem_cons_of_mem _ (igX6 w9 hw9)
  have fl40 := hts (.fieldLink RX6 40 "HalfScales$Thing" "peopleCount" "I") (List.mem_cons_of_mem _ (hs_inG 1 55 rfl rfl))
  obtain ⟨I0, I1, ⟨I2, I2b⟩, I3, I4⟩ := hN0
  subst hsz
  have hD := hD0.self (sz := s.heap.size)
  generalize hAe : va_A [oqT t t_a t_N t_J] s.heap.size = A at hD ⊢
  have hA : ∀ q : Nat, s.heap.size ≤ q → A q := fun q h => by rw [← hAe]; exact Or.inr h
  have hS : va_S A s.heap s.heap [] := va_S.rf
  have hl := lv_entry ([.ref t]) (n := 1) (Nat.le_of_ble_eq_true rfl)
  rw [lg_entry_eq]
  generalize (lg_sl ([.ref t]) ++ List.replicate (1 - (lg_sl ([.ref t])).length) Slot.unset).toArray = ls at hl ⊢
  have hl : lv_has ls 1 [(0, .ref t)] := hl
  have hP : va_P D vwCl [oqT t t_a t_N t_J] s.heap := hP
  refine lv_iconst (v := 1) hx hb dX6_allPeople_0 hki_1 ?_
  refine lv_aload_n hx hb dX6_allPeople_1 rfl (lv_at hl 0 rfl) ?_
  refine va_get (D := D) (ci := 5) (v := .int (nI (t_N 1))) (C := RX6) (T := TX6) (N := 15) hx hb hts hiX6 hown hK hP 0 rfl rfl 8 (Nat.le_of_ble_eq_true rfl) fl40 (fun _ h9 => h9) rfl dX6_allPeople_2 ?_
  refine lv_ishl hx hb dX6_allPeople_5 ?_
  refine lv_iconst (v := 1) hx hb dX6_allPeople_6 hki_1 ?_
  refine lv_isub hx hb dX6_allPeople_7 ?_
  exact hs_iret hx hb hr hlocks hK hP hD hS () [0] rfl (hs_upnd rfl) dX6_allPeople_8 (by rw [hs_shl (by omega)]; exact pk_sub (b := 1) Nat.one_le_two_pow)

set_option maxHeartbeats 4000000 in
set_option maxRecDepth 100000 in
theorem g_leftOf (l : Launch) (D : va_G) (k : Nat → ClassId) (sz : Nat) (t : Nat) (t_a : Nat → Nat) (t_N : Nat → Nat) (t_J : Nat → Int32) (i : Int32)  : MI l yX6_leftOf wsX6_leftOf ({ frames := 0, cells := 0, slots := 0, locals := 0 }) D k [.ref t, .int i] [oqT t t_a t_N t_J] sz (fun (r : Int32) (u : Unit) => True) (fun (u : Unit) => [oqT t t_a t_N t_J]) := by
  refine Met.ofW (cc := cX6_leftOf) (maxL := 2) (ret := (some .int)) hpn_X6 rfl ?_
  intro p e s m args below meth c s₁ B hml hv
  obtain ⟨rfl, hsz, hP, hK, hD0, hN⟩ := hv
  have hx := B.exec
  have hb := B.bytes
  have hr := B.returns
  have hlocks := B.notSynchronized
  have hts := atoms_spec (ws := wsX6_leftOf) B.pre
  have hown := findClass_of_methodNamed B.named
  have hown : s.vm.findClass RX6 = some m.cls := hown
  subst hsz
  have hD := hD0.self (sz := s.heap.size)
  generalize hAe : va_A [oqT t t_a t_N t_J] s.heap.size = A at hD ⊢
  have hA : ∀ q : Nat, s.heap.size ≤ q → A q := fun q h => by rw [← hAe]; exact Or.inr h
  have hS : va_S A s.heap s.heap [] := va_S.rf
  have hl := lv_entry ([.ref t, .int i]) (n := 2) (Nat.le_of_ble_eq_true rfl)
  rw [lg_entry_eq]
  generalize (lg_sl ([.ref t, .int i]) ++ List.replicate (2 - (lg_sl ([.ref t, .int i])).length) Slot.unset).toArray = ls at hl ⊢
  have hl : lv_has ls 2 [(0, .ref t), (1, .int i)] := hl
  have hP : va_P D vwCl [oqT t t_a t_N t_J] s.heap := hP
  refine lv_iconst (v := 1) hx hb dX6_leftOf_0 hki_1 ?_
  refine lv_iload_n hx hb dX6_leftOf_1 rfl (lv_at hl 1 rfl) ?_
  refine lv_ishl hx hb dX6_leftOf_2 ?_
  refine lv_iconst (v := 1) hx hb dX6_leftOf_3 hki_1 ?_
  refine lv_isub hx hb dX6_leftOf_4 ?_
  exact hs_iret hx hb hr hlocks hK hP hD hS () [0] rfl (hs_upnd rfl) dX6_leftOf_5 (trivial)

set_option maxHeartbeats 4000000 in
set_option maxRecDepth 100000 in
theorem g_allWeights (l : Launch) (D : va_G) (k : Nat → ClassId) (sz : Nat) (t : Nat) (t_a : Nat → Nat) (t_N : Nat → Nat) (t_J : Nat → Int32) (t_F : Nat → Nat → Int32) (hN0 : thN t_N) : MI l yX6_allWeights wsX6_allWeights ({ frames := 0, cells := 0, slots := 0, locals := 0 }) D k [.ref t] [oqT t t_a t_N t_J, oqF0 k t_a t_F, oqF1 k t_a t_F, oqF2 k t_a t_F, oqF3 k t_a t_F, oqF4 k t_a t_F, oqF5 k t_a t_F, oqF6 k t_a t_F] sz (fun (r : Int32) (u : Unit) => True) (fun (u : Unit) => [oqT t t_a t_N t_J, oqF0 k t_a t_F, oqF1 k t_a t_F, oqF2 k t_a t_F, oqF3 k t_a t_F, oqF4 k t_a t_F, oqF5 k t_a t_F, oqF6 k t_a t_F]) := by
  refine Met.ofW (cc := cX6_allWeights) (maxL := 3) (ret := (some .int)) hpn_X6 rfl ?_
  intro p e s m args below meth c s₁ B hml hv
  obtain ⟨rfl, hsz, hP, hK, hD0, hN⟩ := hv
  have hx := B.exec
  have hb := B.bytes
  have hr := B.returns
  have hlocks := B.notSynchronized
  have hts := atoms_spec (ws := wsX6_allWeights) B.pre
  have hown := findClass_of_methodNamed B.named
  have hown : s.vm.findClass RX6 = some m.cls := hown
  have hiX6 : ∀ w ∈ u_ws RX6 TX6 15, w ∈ wsX6_allWeights := fun w9 hw9 => List.mem_cons_of_mem _ (igX6 w9 hw9)
  have fl36 := hts (.fieldLink RX6 36 "HalfScales$Thing" "cellCount" "I") (List.mem_cons_of_mem _ (hs_inG 1 51 rfl rfl))
  have fl9 := hts (.fieldLink RX6 9 "HalfScales$Thing" "weights" "[I") (List.mem_cons_of_mem _ (hs_inG 1 35 rfl rfl))
  obtain ⟨I0, I1, ⟨I2, I2b⟩, I3, I4⟩ := hN0
  subst hsz
  have hD := hD0.self (sz := s.heap.size)
  generalize hAe : va_A [oqT t t_a t_N t_J, oqF0 k t_a t_F, oqF1 k t_a t_F, oqF2 k t_a t_F, oqF3 k t_a t_F, oqF4 k t_a t_F, oqF5 k t_a t_F, oqF6 k t_a t_F] s.heap.size = A at hD ⊢
  have hA : ∀ q : Nat, s.heap.size ≤ q → A q := fun q h => by rw [← hAe]; exact Or.inr h
  have hS : va_S A s.heap s.heap [] := va_S.rf
  have hl := lv_entry ([.ref t]) (n := 3) (Nat.le_of_ble_eq_true rfl)
  rw [lg_entry_eq]
  generalize (lg_sl ([.ref t]) ++ List.replicate (3 - (lg_sl ([.ref t])).length) Slot.unset).toArray = ls at hl ⊢
  have hl : lv_has ls 3 [(0, .ref t)] := hl
  have hP : va_P D vwCl [oqT t t_a t_N t_J, oqF0 k t_a t_F, oqF1 k t_a t_F, oqF2 k t_a t_F, oqF3 k t_a t_F, oqF4 k t_a t_F, oqF5 k t_a t_F, oqF6 k t_a t_F] s.heap := hP
  refine lv_iconst (v := 0) hx hb dX6_allWeights_0 hki_0 ?_
  refine lv_istore_n (lv' := [(1, .int 0), (0, .ref t)]) hx hb dX6_allWeights_1 rfl hl (Nat.le_of_ble_eq_true rfl) rfl (fun ls hl => ?_)
  refine lv_iconst (v := 0) hx hb dX6_allWeights_2 hki_0 ?_
  refine lv_istore_n (lv' := [(2, .int 0), (1, .int 0), (0, .ref t)]) hx hb dX6_allWeights_3 rfl hl (Nat.le_of_ble_eq_true rfl) rfl (fun ls hl => ?_)
  refine hs_while (σ := Int32 × Nat) (fun x => x.2 ≤ t_N 0) (fun x => t_N 0 - x.2) (fun x => [oqT t t_a t_N t_J, oqF0 k t_a t_F, oqF1 k t_a t_F, oqF2 k t_a t_F, oqF3 k t_a t_F, oqF4 k t_a t_F, oqF5 k t_a t_F, oqF6 k t_a t_F]) (fun x => [(2, .int (nI (x.2))), (1, .int (x.1)), (0, .ref t)]) ?_ (0, 0) ?_ hP hD hS hl
  · intro x hI ih4 H locs ls hP hD hS hl
    obtain ⟨sum, i⟩ := x
    try dsimp only at hI
    have hP : va_P D vwCl [oqT t t_a t_N t_J, oqF0 k t_a t_F, oqF1 k t_a t_F, oqF2 k t_a t_F, oqF3 k t_a t_F, oqF4 k t_a t_F, oqF5 k t_a t_F, oqF6 k t_a t_F] H := hP
    have hD : va_D A [oqT t t_a t_N t_J, oqF0 k t_a t_F, oqF1 k t_a t_F, oqF2 k t_a t_F, oqF3 k t_a t_F, oqF4 k t_a t_F, oqF5 k t_a t_F, oqF6 k t_a t_F] := hD
    have hl : lv_has ls 3 [(2, .int (nI i)), (1, .int sum), (0, .ref t)] := hl
    refine lv_iload_n hx hb dX6_allWeights_4 rfl (lv_at hl 0 rfl) ?_
    refine lv_aload_n hx hb dX6_allWeights_5 rfl (lv_at hl 2 rfl) ?_
    refine va_get (D := D) (ci := 5) (v := .int (nI (t_N 0))) (C := RX6) (T := TX6) (N := 15) hx hb hts hiX6 hown hK hP 0 rfl rfl 7 (Nat.le_of_ble_eq_true rfl) fl36 (fun _ h9 => h9) rfl dX6_allWeights_6 ?_
    refine lv_icmp_ge (tgt := 27) hx hb dX6_allWeights_9 rfl (fun c_1 => ?_) (fun c_1 => ?_)
    · have nc_1 : (t_N 0) ≤ i := (nI_leI (a := (t_N 0)) (b := i) (by omega) (by omega)).mp c_1
      refine lv_iload_n hx hb dX6_allWeights_27 rfl (lv_at hl 1 rfl) ?_
      exact hs_iret hx hb hr hlocks hK hP hD hS () [0, 1, 2, 3, 4, 5, 6, 7] rfl (hs_upnd rfl) dX6_allWeights_28 (trivial)
    · have nc_1 : ¬ (t_N 0) ≤ i := fun hq9 => c_1 ((nI_leI (a := (t_N 0)) (b := i) (by omega) (by omega)).mpr hq9)
      refine lv_iload_n hx hb dX6_allWeights_12 rfl (lv_at hl 1 rfl) ?_
      refine lv_aload_n hx hb dX6_allWeights_13 rfl (lv_at hl 2 rfl) ?_
      refine va_get (D := D) (ci := 5) (v := .ref (t_a 0)) (C := RX6) (T := TX6) (N := 15) hx hb hts hiX6 hown hK hP 0 rfl rfl 0 (Nat.le_of_ble_eq_true rfl) fl9 (fun _ h9 => h9) rfl dX6_allWeights_14 ?_
      refine lv_iload_n hx hb dX6_allWeights_17 rfl (lv_at hl 0 rfl) ?_
      refine va_iald hx hb hK hP 1 0 rfl rfl (vp_in_nI (show i < 8 by omega) (by decide)) dX6_allWeights_18 ?_
      refine lv_iadd hx hb dX6_allWeights_19 ?_
      refine lv_istore_n (lv' := [(1, .int (sum + ((t_F 0) (nI i).toNatClampNeg))), (2, .int (nI i)), (0, .ref t)]) hx hb dX6_allWeights_20 rfl hl (Nat.le_of_ble_eq_true rfl) rfl (fun ls hl => ?_)
      refine lv_iinc (v := nI (i + 1)) (lv' := [(2, .int (nI (i + 1))), (1, .int (sum + ((t_F 0) (nI i).toNatClampNeg))), (0, .ref t)]) hx hb dX6_allWeights_21 hl (k := 1) rfl (nI_add (i) 1) (Nat.le_of_ble_eq_true rfl) rfl (fun ls hl => ?_)
      refine lv_goto (tgt := 4) hx hb dX6_allWeights_24 rfl ?_
      exact ih4 (sum + ((t_F 0) (nI i).toNatClampNeg), i + 1) (by (try dsimp only); first | omega | (refine ⟨?_, ?_⟩ <;> first | omega | assumption)) (by (try dsimp only); omega) _ _ _ hP hD hS (lv_sub hl [0, 1, 2] rfl)
  · (try dsimp only); first | omega | (refine ⟨?_, ?_⟩ <;> first | omega | assumption)

set_option maxHeartbeats 4000000 in
set_option maxRecDepth 100000 in
theorem g_worthOfCell (l : Launch) (D : va_G) (k : Nat → ClassId) (sz : Nat) (t : Nat) (t_a : Nat → Nat) (t_N : Nat → Nat) (t_J : Nat → Int32) (t_F : Nat → Nat → Int32) (j : Nat) (i : Nat) (hj : j < 4) (hi : i < 8) : MI l yX6_worthOfCell wsX6_worthOfCell ({ frames := 0, cells := 0, slots := 0, locals := 0 }) D k [.ref t, .int (nI j), .int (nI i)] [oqT t t_a t_N t_J, oqF0 k t_a t_F, oqF1 k t_a t_F, oqF2 k t_a t_F, oqF3 k t_a t_F, oqF4 k t_a t_F, oqF5 k t_a t_F, oqF6 k t_a t_F] sz (fun (r : Int32) (u : Unit) => True) (fun (u : Unit) => [oqT t t_a t_N t_J, oqF0 k t_a t_F, oqF1 k t_a t_F, oqF2 k t_a t_F, oqF3 k t_a t_F, oqF4 k t_a t_F, oqF5 k t_a t_F, oqF6 k t_a t_F]) := by
  refine Met.ofW (cc := cX6_worthOfCell) (maxL := 6) (ret := (some .int)) hpn_X6 rfl ?_
  intro p e s m args below meth c s₁ B hml hv
  obtain ⟨rfl, hsz, hP, hK, hD0, hN⟩ := hv
  have hx := B.exec
  have hb := B.bytes
  have hr := B.returns
  have hlocks := B.notSynchronized
  have hts := atoms_spec (ws := wsX6_worthOfCell) B.pre
  have hown := findClass_of_methodNamed B.named
  have hown : s.vm.findClass RX6 = some m.cls := hown
  have hiX6 : ∀ w ∈ u_ws RX6 TX6 15, w ∈ wsX6_worthOfCell := fun w9 hw9 => List.mem_cons_of_mem _ (igX6 w9 hw9)
  have fl9 := hts (.fieldLink RX6 9 "HalfScales$Thing" "weights" "[I") (List.mem_cons_of_mem _ (hs_inG 1 35 rfl rfl))
  have fl15 := hts (.fieldLink RX6 15 "HalfScales$Thing" "kindOf" "[I") (List.mem_cons_of_mem _ (hs_inG 1 38 rfl rfl))
  subst hsz
  have hD := hD0.self (sz := s.heap.size)
  generalize hAe : va_A [oqT t t_a t_N t_J, oqF0 k t_a t_F, oqF1 k t_a t_F, oqF2 k t_a t_F, oqF3 k t_a t_F, oqF4 k t_a t_F, oqF5 k t_a t_F, oqF6 k t_a t_F] s.heap.size = A at hD ⊢
  have hA : ∀ q : Nat, s.heap.size ≤ q → A q := fun q h => by rw [← hAe]; exact Or.inr h
  have hS : va_S A s.heap s.heap [] := va_S.rf
  have hl := lv_entry ([.ref t, .int (nI j), .int (nI i)]) (n := 6) (Nat.le_of_ble_eq_true rfl)
  rw [lg_entry_eq]
  generalize (lg_sl ([.ref t, .int (nI j), .int (nI i)]) ++ List.replicate (6 - (lg_sl ([.ref t, .int (nI j), .int (nI i)])).length) Slot.unset).toArray = ls at hl ⊢
  have hl : lv_has ls 6 [(0, .ref t), (1, .int (nI j)), (2, .int (nI i))] := hl
  have hP : va_P D vwCl [oqT t t_a t_N t_J, oqF0 k t_a t_F, oqF1 k t_a t_F, oqF2 k t_a t_F, oqF3 k t_a t_F, oqF4 k t_a t_F, oqF5 k t_a t_F, oqF6 k t_a t_F] s.heap := hP
  refine lv_aload_n hx hb dX6_worthOfCell_0 rfl (lv_at hl 0 rfl) ?_
  refine va_get (D := D) (ci := 5) (v := .ref (t_a 0)) (C := RX6) (T := TX6) (N := 15) hx hb hts hiX6 hown hK hP 0 rfl rfl 0 (Nat.le_of_ble_eq_true rfl) fl9 (fun _ h9 => h9) rfl dX6_worthOfCell_1 ?_
  refine lv_iload_n hx hb dX6_worthOfCell_4 rfl (lv_at hl 2 rfl) ?_
  refine va_iald hx hb hK hP 1 0 rfl rfl (vp_in_nI (show i < 8 by omega) (by decide)) dX6_worthOfCell_5 ?_
  refine lv_istore_n (lv' := [(3, .int ((t_F 0) (nI i).toNatClampNeg)), (0, .ref t), (1, .int (nI j)), (2, .int (nI i))]) hx hb dX6_worthOfCell_6 rfl hl (Nat.le_of_ble_eq_true rfl) rfl (fun ls hl => ?_)
  refine lv_aload_n hx hb dX6_worthOfCell_7 rfl (lv_at hl 1 rfl) ?_
  refine va_get (D := D) (ci := 5) (v := .ref (t_a 1)) (C := RX6) (T := TX6) (N := 15) hx hb hts hiX6 hown hK hP 0 rfl rfl 1 (Nat.le_of_ble_eq_true rfl) fl15 (fun _ h9 => h9) rfl dX6_worthOfCell_8 ?_
  refine lv_iload_n hx hb dX6_worthOfCell_11 rfl (lv_at hl 2 rfl) ?_
  refine va_iald hx hb hK hP 2 0 rfl rfl (vp_in_nI (show j < 4 by omega) (by decide)) dX6_worthOfCell_12 ?_
  refine lv_istore (lv' := [(4, .int ((t_F 1) (nI j).toNatClampNeg)), (3, .int ((t_F 0) (nI i).toNatClampNeg)), (0, .ref t), (1, .int (nI j)), (2, .int (nI i))]) hx hb dX6_worthOfCell_13 hl (Nat.le_of_ble_eq_true rfl) rfl (fun ls hl => ?_)
  refine lv_iload hx hb dX6_worthOfCell_15 (lv_at hl 0 rfl) ?_
  refine lv_iconst (v := 3) hx hb dX6_worthOfCell_17 hki_3 ?_
  refine lv_icmp_ne (tgt := 25) hx hb dX6_worthOfCell_18 rfl (fun c_1 => ?_) (fun c_1 => ?_)
  · refine lv_iload_n hx hb dX6_worthOfCell_25 rfl (lv_at hl 4 rfl) ?_
    refine lv_if_ne (tgt := 40) hx hb dX6_worthOfCell_26 rfl (fun c_2 => ?_) (fun c_2 => ?_)
    · have nc_2 : ¬ i = 0 := fun hq9 => c_2 ((nI_eq (a := i) (b := 0) (by omega) (by omega)).mpr hq9)
      refine lv_iload_n hx hb dX6_worthOfCell_40 rfl (lv_at hl 1 rfl) ?_
      refine lv_istore (lv' := [(5, .int ((t_F 0) (nI i).toNatClampNeg)), (4, .int ((t_F 1) (nI j).toNatClampNeg)), (3, .int ((t_F 0) (nI i).toNatClampNeg)), (0, .ref t), (1, .int (nI j)), (2, .int (nI i))]) hx hb dX6_worthOfCell_41 hl (Nat.le_of_ble_eq_true rfl) rfl (fun ls hl => ?_)
      refine lv_iload hx hb dX6_worthOfCell_43 (lv_at hl 1 rfl) ?_
      refine lv_iconst (v := 2) hx hb dX6_worthOfCell_45 hki_2 ?_
      refine lv_icmp_ne (tgt := 63) hx hb dX6_worthOfCell_46 rfl (fun c_3 => ?_) (fun c_3 => ?_)
      · refine lv_iload hx hb dX6_worthOfCell_63 (lv_at hl 0 rfl) ?_
        exact hs_iret hx hb hr hlocks hK hP hD hS () [0, 1, 2, 3, 4, 5, 6, 7] rfl (hs_upnd rfl) dX6_worthOfCell_65 (trivial)
      · refine lv_iload_n hx hb dX6_worthOfCell_49 rfl (lv_at hl 2 rfl) ?_
        refine lv_iconst (v := 2) hx hb dX6_worthOfCell_50 hki_2 ?_
        refine lv_irem hx hb dX6_worthOfCell_51 (by decide) ?_
        refine lv_iconst (v := 1) hx hb dX6_worthOfCell_52 hki_1 ?_
        refine lv_icmp_ne (tgt := 63) hx hb dX6_worthOfCell_53 rfl (fun c_4 => ?_) (fun c_4 => ?_)
        · refine lv_iload hx hb dX6_worthOfCell_63 (lv_at hl 0 rfl) ?_
          exact hs_iret hx hb hr hlocks hK hP hD hS () [0, 1, 2, 3, 4, 5, 6, 7] rfl (hs_upnd rfl) dX6_worthOfCell_65 (trivial)
        · refine lv_iload hx hb dX6_worthOfCell_56 (lv_at hl 0 rfl) ?_
          refine lv_iconst (v := 1) hx hb dX6_worthOfCell_58 hki_1 ?_
          refine lv_iadd hx hb dX6_worthOfCell_59 ?_
          refine lv_goto (tgt := 65) hx hb dX6_worthOfCell_60 rfl ?_
          exact hs_iret hx hb hr hlocks hK hP hD hS () [0, 1, 2, 3, 4, 5, 6, 7] rfl (hs_upnd rfl) dX6_worthOfCell_65 (trivial)
    · have nc_2 : i = 0 := (nI_eq (a := i) (b := 0) (by omega) (by omega)).mp c_2
      refine lv_iload hx hb dX6_worthOfCell_29 (lv_at hl 0 rfl) ?_
      refine lv_if_eq (tgt := 40) hx hb dX6_worthOfCell_31 rfl (fun c_5 => ?_) (fun c_5 => ?_)
      · refine lv_iload_n hx hb dX6_worthOfCell_40 rfl (lv_at hl 1 rfl) ?_
        refine lv_istore (lv' := [(5, .int ((t_F 0) (nI i).toNatClampNeg)), (4, .int ((t_F 1) (nI j).toNatClampNeg)), (3, .int ((t_F 0) (nI i).toNatClampNeg)), (0, .ref t), (1, .int (nI j)), (2, .int (nI i))]) hx hb dX6_worthOfCell_41 hl (Nat.le_of_ble_eq_true rfl) rfl (fun ls hl => ?_)
        refine lv_iload hx hb dX6_worthOfCell_43 (lv_at hl 1 rfl) ?_
        refine lv_iconst (v := 2) hx hb dX6_worthOfCell_45 hki_2 ?_
        refine lv_icmp_ne (tgt := 63) hx hb dX6_worthOfCell_46 rfl (fun c_6 => ?_) (fun c_6 => ?_)
        · refine lv_iload hx hb dX6_worthOfCell_63 (lv_at hl 0 rfl) ?_
          exact hs_iret hx hb hr hlocks hK hP hD hS () [0, 1, 2, 3, 4, 5, 6, 7] rfl (hs_upnd rfl) dX6_worthOfCell_65 (trivial)
        · refine lv_iload_n hx hb dX6_worthOfCell_49 rfl (lv_at hl 2 rfl) ?_
          refine lv_iconst (v := 2) hx hb dX6_worthOfCell_50 hki_2 ?_
          refine lv_irem hx hb dX6_worthOfCell_51 (by decide) ?_
          refine lv_iconst (v := 1) hx hb dX6_worthOfCell_52 hki_1 ?_
          refine lv_icmp_ne (tgt := 63) hx hb dX6_worthOfCell_53 rfl (fun c_7 => ?_) (fun c_7 => ?_)
          · refine lv_iload hx hb dX6_worthOfCell_63 (lv_at hl 0 rfl) ?_
            exact hs_iret hx hb hr hlocks hK hP hD hS () [0, 1, 2, 3, 4, 5, 6, 7] rfl (hs_upnd rfl) dX6_worthOfCell_65 (trivial)
          · refine lv_iload hx hb dX6_worthOfCell_56 (lv_at hl 0 rfl) ?_
            refine lv_iconst (v := 1) hx hb dX6_worthOfCell_58 hki_1 ?_
            refine lv_iadd hx hb dX6_worthOfCell_59 ?_
            refine lv_goto (tgt := 65) hx hb dX6_worthOfCell_60 rfl ?_
            exact hs_iret hx hb hr hlocks hK hP hD hS () [0, 1, 2, 3, 4, 5, 6, 7] rfl (hs_upnd rfl) dX6_worthOfCell_65 (trivial)
      · refine lv_iconst (v := 2) hx hb dX6_worthOfCell_34 hki_2 ?_
        refine lv_iload_n hx hb dX6_worthOfCell_35 rfl (lv_at hl 1 rfl) ?_
        refine lv_imul hx hb dX6_worthOfCell_36 ?_
        refine lv_goto (tgt := 41) hx hb dX6_worthOfCell_37 rfl ?_
        refine lv_istore (lv' := [(5, .int (2 * ((t_F 0) (nI i).toNatClampNeg))), (4, .int ((t_F 1) (nI j).toNatClampNeg)), (3, .int ((t_F 0) (nI i).toNatClampNeg)), (0, .ref t), (1, .int (nI j)), (2, .int (nI i))]) hx hb dX6_worthOfCell_41 hl (Nat.le_of_ble_eq_true rfl) rfl (fun ls hl => ?_)
        refine lv_iload hx hb dX6_worthOfCell_43 (lv_at hl 1 rfl) ?_
        refine lv_iconst (v := 2) hx hb dX6_worthOfCell_45 hki_2 ?_
        refine lv_icmp_ne (tgt := 63) hx hb dX6_worthOfCell_46 rfl (fun c_8 => ?_) (fun c_8 => ?_)
        · refine lv_iload hx hb dX6_worthOfCell_63 (lv_at hl 0 rfl) ?_
          exact hs_iret hx hb hr hlocks hK hP hD hS () [0, 1, 2, 3, 4, 5, 6, 7] rfl (hs_upnd rfl) dX6_worthOfCell_65 (trivial)
        · refine lv_iload_n hx hb dX6_worthOfCell_49 rfl (lv_at hl 2 rfl) ?_
          refine lv_iconst (v := 2) hx hb dX6_worthOfCell_50 hki_2 ?_
          refine lv_irem hx hb dX6_worthOfCell_51 (by decide) ?_
          refine lv_iconst (v := 1) hx hb dX6_worthOfCell_52 hki_1 ?_
          refine lv_icmp_ne (tgt := 63) hx hb dX6_worthOfCell_53 rfl (fun c_9 => ?_) (fun c_9 => ?_)
          · refine lv_iload hx hb dX6_worthOfCell_63 (lv_at hl 0 rfl) ?_
            exact hs_iret hx hb hr hlocks hK hP hD hS () [0, 1, 2, 3, 4, 5, 6, 7] rfl (hs_upnd rfl) dX6_worthOfCell_65 (trivial)
          · refine lv_iload hx hb dX6_worthOfCell_56 (lv_at hl 0 rfl) ?_
            refine lv_iconst (v := 1) hx hb dX6_worthOfCell_58 hki_1 ?_
            refine lv_iadd hx hb dX6_worthOfCell_59 ?_
            refine lv_goto (tgt := 65) hx hb dX6_worthOfCell_60 rfl ?_
            exact hs_iret hx hb hr hlocks hK hP hD hS () [0, 1, 2, 3, 4, 5, 6, 7] rfl (hs_upnd rfl) dX6_worthOfCell_65 (trivial)
  · refine lv_iload_n hx hb dX6_worthOfCell_21 rfl (lv_at hl 1 rfl) ?_
    refine lv_iconst (v := 2) hx hb dX6_worthOfCell_22 hki_2 ?_
    refine lv_idiv hx hb dX6_worthOfCell_23 (by decide) ?_
    exact hs_iret hx hb hr hlocks hK hP hD hS () [0, 1, 2, 3, 4, 5, 6, 7] rfl (hs_upnd rfl) dX6_worthOfCell_24 (trivial)

set_option maxHeartbeats 4000000 in
set_option maxRecDepth 100000 in
theorem g_worthOf (l : Launch) (D : va_G) (k : Nat → ClassId) (sz : Nat) (t : Nat) (t_a : Nat → Nat) (t_N : Nat → Nat) (t_J : Nat → Int32) (t_F : Nat → Nat → Int32) (j : Nat) (cells : Int32) (hN0 : thN t_N) (hj : j < 4) : MI l yX6_worthOf wsX6_worthOf ({ frames := 1, cells := 0, slots := 0, locals := 25 }) D k [.ref t, .int (nI j), .int cells] [oqT t t_a t_N t_J, oqF0 k t_a t_F, oqF1 k t_a t_F, oqF2 k t_a t_F, oqF3 k t_a t_F, oqF4 k t_a t_F, oqF5 k t_a t_F, oqF6 k t_a t_F] sz (fun (r : Int32) (u : Unit) => True) (fun (u : Unit) => [oqT t t_a t_N t_J, oqF0 k t_a t_F, oqF1 k t_a t_F, oqF2 k t_a t_F, oqF3 k t_a t_F, oqF4 k t_a t_F, oqF5 k t_a t_F, oqF6 k t_a t_F]) := by
  refine Met.ofW (cc := cX6_worthOf) (maxL := 5) (ret := (some .int)) hpn_X6 rfl ?_
  intro p e s m args below meth c s₁ B hml hv
  obtain ⟨rfl, hsz, hP, hK, hD0, hN⟩ := hv
  have hx := B.exec
  have hb := B.bytes
  have hr := B.returns
  have hlocks := B.notSynchronized
  have hts := atoms_spec (ws := wsX6_worthOf) B.pre
  have hown := findClass_of_methodNamed B.named
  have hown : s.vm.findClass RX6 = some m.cls := hown
  have hiX6 : ∀ w ∈ u_ws RX6 TX6 15, w ∈ wsX6_worthOf := fun w9 hw9 => List.mem_cons_of_mem _ (igX6 w9 hw9)
  have fl36 := hts (.fieldLink RX6 36 "HalfScales$Thing" "cellCount" "I") (List.mem_cons_of_mem _ (hs_inG 1 51 rfl rfl))
  obtain ⟨I0, I1, ⟨I2, I2b⟩, I3, I4⟩ := hN0
  subst hsz
  have hD := hD0.self (sz := s.heap.size)
  generalize hAe : va_A [oqT t t_a t_N t_J, oqF0 k t_a t_F, oqF1 k t_a t_F, oqF2 k t_a t_F, oqF3 k t_a t_F, oqF4 k t_a t_F, oqF5 k t_a t_F, oqF6 k t_a t_F] s.heap.size = A at hD ⊢
  have hA : ∀ q : Nat, s.heap.size ≤ q → A q := fun q h => by rw [← hAe]; exact Or.inr h
  have hS : va_S A s.heap s.heap [] := va_S.rf
  have hl := lv_entry ([.ref t, .int (nI j), .int cells]) (n := 5) (Nat.le_of_ble_eq_true rfl)
  rw [lg_entry_eq]
  generalize (lg_sl ([.ref t, .int (nI j), .int cells]) ++ List.replicate (5 - (lg_sl ([.ref t, .int (nI j), .int cells])).length) Slot.unset).toArray = ls at hl ⊢
  have hl : lv_has ls 5 [(0, .ref t), (1, .int (nI j)), (2, .int cells)] := hl
  have hP : va_P D vwCl [oqT t t_a t_N t_J, oqF0 k t_a t_F, oqF1 k t_a t_F, oqF2 k t_a t_F, oqF3 k t_a t_F, oqF4 k t_a t_F, oqF5 k t_a t_F, oqF6 k t_a t_F] s.heap := hP
  refine lv_iconst (v := 0) hx hb dX6_worthOf_0 hki_0 ?_
  refine lv_istore_n (lv' := [(3, .int 0), (0, .ref t), (1, .int (nI j)), (2, .int cells)]) hx hb dX6_worthOf_1 rfl hl (Nat.le_of_ble_eq_true rfl) rfl (fun ls hl => ?_)
  refine lv_iconst (v := 0) hx hb dX6_worthOf_2 hki_0 ?_
  refine lv_istore (lv' := [(4, .int 0), (3, .int 0), (0, .ref t), (1, .int (nI j)), (2, .int cells)]) hx hb dX6_worthOf_3 hl (Nat.le_of_ble_eq_true rfl) rfl (fun ls hl => ?_)
  refine hs_while (σ := Int32 × Nat) (fun x => x.2 ≤ t_N 0) (fun x => t_N 0 - x.2) (fun x => [oqT t t_a t_N t_J, oqF0 k t_a t_F, oqF1 k t_a t_F, oqF2 k t_a t_F, oqF3 k t_a t_F, oqF4 k t_a t_F, oqF5 k t_a t_F, oqF6 k t_a t_F]) (fun x => [(4, .int (nI (x.2))), (3, .int (x.1)), (0, .ref t), (1, .int (nI j)), (2, .int cells)]) ?_ (0, 0) ?_ hP hD hS hl
  · intro x hI ih5 H locs ls hP hD hS hl
    obtain ⟨sum, i⟩ := x
    try dsimp only at hI
    have hP : va_P D vwCl [oqT t t_a t_N t_J, oqF0 k t_a t_F, oqF1 k t_a t_F, oqF2 k t_a t_F, oqF3 k t_a t_F, oqF4 k t_a t_F, oqF5 k t_a t_F, oqF6 k t_a t_F] H := hP
    have hD : va_D A [oqT t t_a t_N t_J, oqF0 k t_a t_F, oqF1 k t_a t_F, oqF2 k t_a t_F, oqF3 k t_a t_F, oqF4 k t_a t_F, oqF5 k t_a t_F, oqF6 k t_a t_F] := hD
    have hl : lv_has ls 5 [(4, .int (nI i)), (3, .int sum), (0, .ref t), (1, .int (nI j)), (2, .int cells)] := hl
    refine lv_iload hx hb dX6_worthOf_5 (lv_at hl 0 rfl) ?_
    refine lv_aload_n hx hb dX6_worthOf_7 rfl (lv_at hl 2 rfl) ?_
    refine va_get (D := D) (ci := 5) (v := .int (nI (t_N 0))) (C := RX6) (T := TX6) (N := 15) hx hb hts hiX6 hown hK hP 0 rfl rfl 7 (Nat.le_of_ble_eq_true rfl) fl36 (fun _ h9 => h9) rfl dX6_worthOf_8 ?_
    refine lv_icmp_ge (tgt := 40) hx hb dX6_worthOf_11 rfl (fun c_1 => ?_) (fun c_1 => ?_)
    · have nc_1 : (t_N 0) ≤ i := (nI_leI (a := (t_N 0)) (b := i) (by omega) (by omega)).mp c_1
      refine lv_iload_n hx hb dX6_worthOf_40 rfl (lv_at hl 1 rfl) ?_
      exact hs_iret hx hb hr hlocks hK hP hD hS () [0, 1, 2, 3, 4, 5, 6, 7] rfl (hs_upnd rfl) dX6_worthOf_41 (trivial)
    · have nc_1 : ¬ (t_N 0) ≤ i := fun hq9 => c_1 ((nI_leI (a := (t_N 0)) (b := i) (by omega) (by omega)).mpr hq9)
      refine lv_iload_n hx hb dX6_worthOf_14 rfl (lv_at hl 4 rfl) ?_
      refine lv_iload hx hb dX6_worthOf_15 (lv_at hl 0 rfl) ?_
      refine lv_ishr hx hb dX6_worthOf_17 ?_
      refine lv_iconst (v := 1) hx hb dX6_worthOf_18 hki_1 ?_
      refine lv_iand hx hb dX6_worthOf_19 ?_
      refine lv_iconst (v := 1) hx hb dX6_worthOf_20 hki_1 ?_
      refine lv_icmp_ne (tgt := 34) hx hb dX6_worthOf_21 rfl (fun c_2 => ?_) (fun c_2 => ?_)
      · refine lv_iinc (v := nI (i + 1)) (lv' := [(4, .int (nI (i + 1))), (3, .int sum), (0, .ref t), (1, .int (nI j)), (2, .int cells)]) hx hb dX6_worthOf_34 hl (k := 0) rfl (nI_add (i) 1) (Nat.le_of_ble_eq_true rfl) rfl (fun ls hl => ?_)
        refine lv_goto (tgt := 5) hx hb dX6_worthOf_37 rfl ?_
        exact ih5 (sum, i + 1) (by (try dsimp only); first | omega | (refine ⟨?_, ?_⟩ <;> first | omega | assumption)) (by (try dsimp only); omega) _ _ _ hP hD hS (lv_sub hl [0, 1, 2, 3, 4] rfl)
      · refine lv_iload_n hx hb dX6_worthOf_24 rfl (lv_at hl 1 rfl) ?_
        refine lv_aload_n hx hb dX6_worthOf_25 rfl (lv_at hl 2 rfl) ?_
        refine lv_iload_n hx hb dX6_worthOf_26 rfl (lv_at hl 3 rfl) ?_
        refine lv_iload hx hb dX6_worthOf_27 (lv_at hl 0 rfl) ?_
        refine hs_ciM (va_runV (As := [.int (nI j), .int (nI i)]) (rest := [.int sum]) ⟨hx, hb, hml, hown, hts⟩ (g_worthOfCell l D k _ t t_a t_N t_J t_F j i (by omega) (by omega)) (cwV 2 hts gX6_worthOf_X6_worthOfCell rfl rfl rfl ⟨rfl, hq_X6_worthOfCell⟩ ⟨Nat.le_of_ble_eq_true rfl, Nat.le_of_ble_eq_true rfl⟩) (hs_preV hK hN (hs_subP (w := [_, _, _, _, _, _, _, _]) hP [0, 1, 2, 3, 4, 5, 6, 7] rfl) (hD.sub (ws' := [_, _, _, _, _, _, _, _]) [0, 1, 2, 3, 4, 5, 6, 7] (hs_upnd rfl) rfl) (ci := 5) (q0 := 0) rfl rfl) rfl rfl hl.1 rfl (lv_room (Nat.le_of_ble_eq_true rfl)) dX6_worthOf_29 ⟨Nat.le_of_ble_eq_true rfl, Nat.le_of_ble_eq_true rfl⟩) hP hD hS hA [false, false, false, false, false, false, false, false] [] [_, _, _, _, _, _, _, _] rfl [0, 1, 2, 3, 4, 5, 6, 7] rfl [0, 1, 2, 3, 4, 5, 6, 7] (fun u_5 => [_, _, _, _, _, _, _, _]) (fun _ => rfl) (hs_upnd rfl) [false, false, false, false, false, false, false, false] (fun u_5 => [_, _, _, _, _, _, _, _]) (fun _ => rfl) (fun r_3 u_5 H locs hw_4 hP hD hS => ?_)
        refine lv_iadd hx hb dX6_worthOf_32 ?_
        refine lv_istore_n (lv' := [(3, .int (sum + r_3)), (4, .int (nI i)), (0, .ref t), (1, .int (nI j)), (2, .int cells)]) hx hb dX6_worthOf_33 rfl hl (Nat.le_of_ble_eq_true rfl) rfl (fun ls hl => ?_)
        refine lv_iinc (v := nI (i + 1)) (lv' := [(4, .int (nI (i + 1))), (3, .int (sum + r_3)), (0, .ref t), (1, .int (nI j)), (2, .int cells)]) hx hb dX6_worthOf_34 hl (k := 1) rfl (nI_add (i) 1) (Nat.le_of_ble_eq_true rfl) rfl (fun ls hl => ?_)
        refine lv_goto (tgt := 5) hx hb dX6_worthOf_37 rfl ?_
        exact ih5 (sum + r_3, i + 1) (by (try dsimp only); first | omega | (refine ⟨?_, ?_⟩ <;> first | omega | assumption)) (by (try dsimp only); omega) _ _ _ hP hD hS (lv_sub hl [0, 1, 2, 3, 4] rfl)
  · (try dsimp only); first | omega | (refine ⟨?_, ?_⟩ <;> first | omega | assumption)

set_option maxHeartbeats 4000000 in
set_option maxRecDepth 100000 in
theorem g_lead (l : Launch) (D : va_G) (k : Nat → ClassId) (sz : Nat) (t : Nat) (t_a : Nat → Nat) (t_N : Nat → Nat) (t_J : Nat → Int32) (t_F : Nat → Nat → Int32) (j : Nat) (cells : Int32) (hN0 : thN t_N) (hj : j < 4) : MI l yX6_lead wsX6_lead ({ frames := 1, cells := 0, slots := 0, locals := 25 }) D k [.ref t, .int (nI j), .int cells] [oqT t t_a t_N t_J, oqF0 k t_a t_F, oqF1 k t_a t_F, oqF2 k t_a t_F, oqF3 k t_a t_F, oqF4 k t_a t_F, oqF5 k t_a t_F, oqF6 k t_a t_F] sz (fun (r : Int32) (u : Unit) => True) (fun (u : Unit) => [oqT t t_a t_N t_J, oqF0 k t_a t_F, oqF1 k t_a t_F, oqF2 k t_a t_F, oqF3 k t_a t_F, oqF4 k t_a t_F, oqF5 k t_a t_F, oqF6 k t_a t_F]) := by
  refine Met.ofW (cc := cX6_lead) (maxL := 6) (ret := (some .int)) hpn_X6 rfl ?_
  intro p e s m args below meth c s₁ B hml hv
  obtain ⟨rfl, hsz, hP, hK, hD0, hN⟩ := hv
  have hx := B.exec
  have hb := B.bytes
  have hr := B.returns
  have hlocks := B.notSynchronized
  have hts := atoms_spec (ws := wsX6_lead) B.pre
  have hown := findClass_of_methodNamed B.named
  have hown : s.vm.findClass RX6 = some m.cls := hown
  have hiX6 : ∀ w ∈ u_ws RX6 TX6 15, w ∈ wsX6_lead := fun w9 hw9 => List.mem_cons_of_mem _ (igX6 w9 hw9)
  have fl36 := hts (.fieldLink RX6 36 "HalfScales$Thing" "cellCount" "I") (List.mem_cons_of_mem _ (hs_inG 1 51 rfl rfl))
  obtain ⟨I0, I1, ⟨I2, I2b⟩, I3, I4⟩ := hN0
  subst hsz
  have hD := hD0.self (sz := s.heap.size)
  generalize hAe : va_A [oqT t t_a t_N t_J, oqF0 k t_a t_F, oqF1 k t_a t_F, oqF2 k t_a t_F, oqF3 k t_a t_F, oqF4 k t_a t_F, oqF5 k t_a t_F, oqF6 k t_a t_F] s.heap.size = A at hD ⊢
  have hA : ∀ q : Nat, s.heap.size ≤ q → A q := fun q h => by rw [← hAe]; exact Or.inr h
  have hS : va_S A s.heap s.heap [] := va_S.rf
  have hl := lv_entry ([.ref t, .int (nI j), .int cells]) (n := 6) (Nat.le_of_ble_eq_true rfl)
  rw [lg_entry_eq]
  generalize (lg_sl ([.ref t, .int (nI j), .int cells]) ++ List.replicate (6 - (lg_sl ([.ref t, .int (nI j), .int cells])).length) Slot.unset).toArray = ls at hl ⊢
  have hl : lv_has ls 6 [(0, .ref t), (1, .int (nI j)), (2, .int cells)] := hl
  have hP : va_P D vwCl [oqT t t_a t_N t_J, oqF0 k t_a t_F, oqF1 k t_a t_F, oqF2 k t_a t_F, oqF3 k t_a t_F, oqF4 k t_a t_F, oqF5 k t_a t_F, oqF6 k t_a t_F] s.heap := hP
  refine lv_iconst (v := 0) hx hb dX6_lead_0 hki_0 ?_
  refine lv_istore_n (lv' := [(3, .int 0), (0, .ref t), (1, .int (nI j)), (2, .int cells)]) hx hb dX6_lead_1 rfl hl (Nat.le_of_ble_eq_true rfl) rfl (fun ls hl => ?_)
  refine lv_iconst (v := 0) hx hb dX6_lead_2 hki_0 ?_
  refine lv_istore (lv' := [(4, .int 0), (3, .int 0), (0, .ref t), (1, .int (nI j)), (2, .int cells)]) hx hb dX6_lead_3 hl (Nat.le_of_ble_eq_true rfl) rfl (fun ls hl => ?_)
  refine hs_while (σ := Int32 × Nat) (fun x => x.2 ≤ t_N 0) (fun x => t_N 0 - x.2) (fun x => [oqT t t_a t_N t_J, oqF0 k t_a t_F, oqF1 k t_a t_F, oqF2 k t_a t_F, oqF3 k t_a t_F, oqF4 k t_a t_F, oqF5 k t_a t_F, oqF6 k t_a t_F]) (fun x => [(4, .int (nI (x.2))), (3, .int (x.1)), (0, .ref t), (1, .int (nI j)), (2, .int cells)]) ?_ (0, 0) ?_ hP hD hS hl
  · intro x hI ih5 H locs ls hP hD hS hl
    obtain ⟨more, i⟩ := x
    try dsimp only at hI
    have hP : va_P D vwCl [oqT t t_a t_N t_J, oqF0 k t_a t_F, oqF1 k t_a t_F, oqF2 k t_a t_F, oqF3 k t_a t_F, oqF4 k t_a t_F, oqF5 k t_a t_F, oqF6 k t_a t_F] H := hP
    have hD : va_D A [oqT t t_a t_N t_J, oqF0 k t_a t_F, oqF1 k t_a t_F, oqF2 k t_a t_F, oqF3 k t_a t_F, oqF4 k t_a t_F, oqF5 k t_a t_F, oqF6 k t_a t_F] := hD
    have hl : lv_has ls 6 [(4, .int (nI i)), (3, .int more), (0, .ref t), (1, .int (nI j)), (2, .int cells)] := hl
    refine lv_iload hx hb dX6_lead_5 (lv_at hl 0 rfl) ?_
    refine lv_aload_n hx hb dX6_lead_7 rfl (lv_at hl 2 rfl) ?_
    refine va_get (D := D) (ci := 5) (v := .int (nI (t_N 0))) (C := RX6) (T := TX6) (N := 15) hx hb hts hiX6 hown hK hP 0 rfl rfl 7 (Nat.le_of_ble_eq_true rfl) fl36 (fun _ h9 => h9) rfl dX6_lead_8 ?_
    refine lv_icmp_ge (tgt := 50) hx hb dX6_lead_11 rfl (fun c_1 => ?_) (fun c_1 => ?_)
    · have nc_1 : (t_N 0) ≤ i := (nI_leI (a := (t_N 0)) (b := i) (by omega) (by omega)).mp c_1
      refine lv_iload_n hx hb dX6_lead_50 rfl (lv_at hl 1 rfl) ?_
      exact hs_iret hx hb hr hlocks hK hP hD hS () [0, 1, 2, 3, 4, 5, 6, 7] rfl (hs_upnd rfl) dX6_lead_51 (trivial)
    · have nc_1 : ¬ (t_N 0) ≤ i := fun hq9 => c_1 ((nI_leI (a := (t_N 0)) (b := i) (by omega) (by omega)).mpr hq9)
      refine lv_aload_n hx hb dX6_lead_14 rfl (lv_at hl 2 rfl) ?_
      refine lv_iload_n hx hb dX6_lead_15 rfl (lv_at hl 3 rfl) ?_
      refine lv_iload hx hb dX6_lead_16 (lv_at hl 0 rfl) ?_
      refine hs_ciM (va_runV (As := [.int (nI j), .int (nI i)]) (rest := []) ⟨hx, hb, hml, hown, hts⟩ (g_worthOfCell l D k _ t t_a t_N t_J t_F j i (by omega) (by omega)) (cwV 2 hts gX6_lead_X6_worthOfCell rfl rfl rfl ⟨rfl, hq_X6_worthOfCell⟩ ⟨Nat.le_of_ble_eq_true rfl, Nat.le_of_ble_eq_true rfl⟩) (hs_preV hK hN (hs_subP (w := [_, _, _, _, _, _, _, _]) hP [0, 1, 2, 3, 4, 5, 6, 7] rfl) (hD.sub (ws' := [_, _, _, _, _, _, _, _]) [0, 1, 2, 3, 4, 5, 6, 7] (hs_upnd rfl) rfl) (ci := 5) (q0 := 0) rfl rfl) rfl rfl hl.1 rfl (lv_room (Nat.le_of_ble_eq_true rfl)) dX6_lead_18 ⟨Nat.le_of_ble_eq_true rfl, Nat.le_of_ble_eq_true rfl⟩) hP hD hS hA [false, false, false, false, false, false, false, false] [] [_, _, _, _, _, _, _, _] rfl [0, 1, 2, 3, 4, 5, 6, 7] rfl [0, 1, 2, 3, 4, 5, 6, 7] (fun u_4 => [_, _, _, _, _, _, _, _]) (fun _ => rfl) (hs_upnd rfl) [false, false, false, false, false, false, false, false] (fun u_4 => [_, _, _, _, _, _, _, _]) (fun _ => rfl) (fun r_2 u_4 H locs hw_3 hP hD hS => ?_)
      refine lv_istore (lv' := [(5, .int r_2), (4, .int (nI i)), (3, .int more), (0, .ref t), (1, .int (nI j)), (2, .int cells)]) hx hb dX6_lead_21 hl (Nat.le_of_ble_eq_true rfl) rfl (fun ls hl => ?_)
      refine lv_iload_n hx hb dX6_lead_23 rfl (lv_at hl 2 rfl) ?_
      refine lv_iload_n hx hb dX6_lead_24 rfl (lv_at hl 5 rfl) ?_
      refine lv_iload hx hb dX6_lead_25 (lv_at hl 1 rfl) ?_
      refine lv_ishr hx hb dX6_lead_27 ?_
      refine lv_iconst (v := 1) hx hb dX6_lead_28 hki_1 ?_
      refine lv_iand hx hb dX6_lead_29 ?_
      refine lv_iconst (v := 1) hx hb dX6_lead_30 hki_1 ?_
      refine lv_icmp_ne (tgt := 39) hx hb dX6_lead_31 rfl (fun c_5 => ?_) (fun c_5 => ?_)
      · refine lv_iload hx hb dX6_lead_39 (lv_at hl 0 rfl) ?_
        refine lv_ineg hx hb dX6_lead_41 ?_
        refine lv_iadd hx hb dX6_lead_42 ?_
        refine lv_istore_n (lv' := [(3, .int (more + (-r_2))), (5, .int r_2), (4, .int (nI i)), (0, .ref t), (1, .int (nI j)), (2, .int cells)]) hx hb dX6_lead_43 rfl hl (Nat.le_of_ble_eq_true rfl) rfl (fun ls hl => ?_)
        refine lv_iinc (v := nI (i + 1)) (lv' := [(4, .int (nI (i + 1))), (3, .int (more + (-r_2))), (5, .int r_2), (0, .ref t), (1, .int (nI j)), (2, .int cells)]) hx hb dX6_lead_44 hl (k := 2) rfl (nI_add (i) 1) (Nat.le_of_ble_eq_true rfl) rfl (fun ls hl => ?_)
        refine lv_goto (tgt := 5) hx hb dX6_lead_47 rfl ?_
        exact ih5 (more + (-r_2), i + 1) (by (try dsimp only); first | omega | (refine ⟨?_, ?_⟩ <;> first | omega | assumption)) (by (try dsimp only); omega) _ _ _ hP hD hS (lv_sub hl [0, 1, 3, 4, 5] rfl)
      · refine lv_iload hx hb dX6_lead_34 (lv_at hl 0 rfl) ?_
        refine lv_goto (tgt := 42) hx hb dX6_lead_36 rfl ?_
        refine lv_iadd hx hb dX6_lead_42 ?_
        refine lv_istore_n (lv' := [(3, .int (more + r_2)), (5, .int r_2), (4, .int (nI i)), (0, .ref t), (1, .int (nI j)), (2, .int cells)]) hx hb dX6_lead_43 rfl hl (Nat.le_of_ble_eq_true rfl) rfl (fun ls hl => ?_)
        refine lv_iinc (v := nI (i + 1)) (lv' := [(4, .int (nI (i + 1))), (3, .int (more + r_2)), (5, .int r_2), (0, .ref t), (1, .int (nI j)), (2, .int cells)]) hx hb dX6_lead_44 hl (k := 2) rfl (nI_add (i) 1) (Nat.le_of_ble_eq_true rfl) rfl (fun ls hl => ?_)
        refine lv_goto (tgt := 5) hx hb dX6_lead_47 rfl ?_
        exact ih5 (more + r_2, i + 1) (by (try dsimp only); first | omega | (refine ⟨?_, ?_⟩ <;> first | omega | assumption)) (by (try dsimp only); omega) _ _ _ hP hD hS (lv_sub hl [0, 1, 3, 4, 5] rfl)
  · (try dsimp only); first | omega | (refine ⟨?_, ?_⟩ <;> first | omega | assumption)

set_option maxHeartbeats 4000000 in
set_option maxRecDepth 100000 in
theorem g_verdict (l : Launch) (D : va_G) (k : Nat → ClassId) (sz : Nat) (t : Nat) (t_a : Nat → Nat) (t_N : Nat → Nat) (t_J : Nat → Int32) (t_F : Nat → Nat → Int32) (j : Nat) (kk : Int32) (hN0 : thN t_N) (hj : j < 4) : MI l yX6_verdict wsX6_verdict ({ frames := 2, cells := 0, slots := 0, locals := 50 }) D k [.ref t, .int (nI j), .int kk] [oqT t t_a t_N t_J, oqF0 k t_a t_F, oqF1 k t_a t_F, oqF2 k t_a t_F, oqF3 k t_a t_F, oqF4 k t_a t_F, oqF5 k t_a t_F, oqF6 k t_a t_F] sz (fun (r : Int32) (u : Unit) => True) (fun (u : Unit) => [oqT t t_a t_N t_J, oqF0 k t_a t_F, oqF1 k t_a t_F, oqF2 k t_a t_F, oqF3 k t_a t_F, oqF4 k t_a t_F, oqF5 k t_a t_F, oqF6 k t_a t_F]) := by
  refine Met.ofW (cc := cX6_verdict) (maxL := 4) (ret := (some .int)) hpn_X6 rfl ?_
  intro p e s m args below meth c s₁ B hml hv
  obtain ⟨rfl, hsz, hP, hK, hD0, hN⟩ := hv
  have hx := B.exec
  have hb := B.bytes
  have hr := B.returns
  have hlocks := B.notSynchronized
  have hts := atoms_spec (ws := wsX6_verdict) B.pre
  have hown := findClass_of_methodNamed B.named
  have hown : s.vm.findClass RX6 = some m.cls := hown
  have hiX6 : ∀ w ∈ u_ws RX6 TX6 15, w ∈ wsX6_verdict := fun w9 hw9 => List.mem_cons_of_mem _ (igX6 w9 hw9)
  have fl43 := hts (.fieldLink RX6 43 "HalfScales$Thing" "slip" "I") (List.mem_cons_of_mem _ (hs_inG 1 59 rfl rfl))
  have mm94 := hts (.methodLink RX6 94 Lib.Math.abs.name) (List.mem_cons_of_mem _ (hs_inG 3 68 rfl rfl))
  have msabs := hts (.static Lib.Math.abs.name) (List.mem_cons_of_mem _ (hs_inG 3 69 rfl rfl))
  have mi := hts (.initialized "java/lang/Math") (List.mem_cons_of_mem _ (hs_inG 1 14 rfl rfl))
  have mcabs := hts (.code Lib.Math.abs.name Lib.Math.abs.code 1 (some .int)) (List.mem_cons_of_mem _ (hs_inG 3 70 rfl rfl))
  obtain ⟨I0, I1, ⟨I2, I2b⟩, I3, I4⟩ := hN0
  subst hsz
  have hD := hD0.self (sz := s.heap.size)
  generalize hAe : va_A [oqT t t_a t_N t_J, oqF0 k t_a t_F, oqF1 k t_a t_F, oqF2 k t_a t_F, oqF3 k t_a t_F, oqF4 k t_a t_F, oqF5 k t_a t_F, oqF6 k t_a t_F] s.heap.size = A at hD ⊢
  have hA : ∀ q : Nat, s.heap.size ≤ q → A q := fun q h => by rw [← hAe]; exact Or.inr h
  have hS : va_S A s.heap s.heap [] := va_S.rf
  have hl := lv_entry ([.ref t, .int (nI j), .int kk]) (n := 4) (Nat.le_of_ble_eq_true rfl)
  rw [lg_entry_eq]
  generalize (lg_sl ([.ref t, .int (nI j), .int kk]) ++ List.replicate (4 - (lg_sl ([.ref t, .int (nI j), .int kk])).length) Slot.unset).toArray = ls at hl ⊢
  have hl : lv_has ls 4 [(0, .ref t), (1, .int (nI j)), (2, .int kk)] := hl
  have hP : va_P D vwCl [oqT t t_a t_N t_J, oqF0 k t_a t_F, oqF1 k t_a t_F, oqF2 k t_a t_F, oqF3 k t_a t_F, oqF4 k t_a t_F, oqF5 k t_a t_F, oqF6 k t_a t_F] s.heap := hP
  refine lv_aload_n hx hb dX6_verdict_0 rfl (lv_at hl 0 rfl) ?_
  refine lv_iload_n hx hb dX6_verdict_1 rfl (lv_at hl 1 rfl) ?_
  refine lv_aload_n hx hb dX6_verdict_2 rfl (lv_at hl 0 rfl) ?_
  refine lv_iload_n hx hb dX6_verdict_3 rfl (lv_at hl 2 rfl) ?_
  refine hs_ciM (va_runV (As := [.int kk]) (rest := [.int (nI j), .ref t]) ⟨hx, hb, hml, hown, hts⟩ (g_leftOf l D k _ t t_a t_N t_J kk) (cwV 1 hts gX6_verdict_X6_leftOf rfl rfl rfl ⟨rfl, hq_X6_leftOf⟩ ⟨Nat.le_of_ble_eq_true rfl, Nat.le_of_ble_eq_true rfl⟩) (hs_preV hK hN (hs_subP (w := [_]) hP [0] rfl) (hD.sub (ws' := [_]) [0] (hs_upnd rfl) rfl) (ci := 5) (q0 := 0) rfl rfl) rfl rfl hl.1 rfl (lv_room (Nat.le_of_ble_eq_true rfl)) dX6_verdict_4 ⟨Nat.le_of_ble_eq_true rfl, Nat.le_of_ble_eq_true rfl⟩) hP hD hS hA [false, true, true, true, true, true, true, true] [_, _, _, _, _, _, _] [_] rfl [0] rfl [0] (fun u_3 => [_]) (fun _ => rfl) (hs_upnd rfl) [false, true, true, true, true, true, true, true] (fun u_3 => [_, _, _, _, _, _, _, _]) (fun _ => rfl) (fun r_1 u_3 H locs hw_2 hP hD hS => ?_)
  refine hs_ciM (va_runV (As := [.int (nI j), .int r_1]) (rest := []) ⟨hx, hb, hml, hown, hts⟩ (g_lead l D k _ t t_a t_N t_J t_F j r_1 (by first | assumption | exact ⟨by first | omega | (dsimp; omega), by first | omega | (dsimp; omega), ⟨by first | omega | (dsimp; omega), by first | omega | (dsimp; omega)⟩, by first | omega | (dsimp; omega), by first | omega | (dsimp; omega)⟩) (by omega)) (cwV 2 hts gX6_verdict_X6_lead rfl rfl rfl ⟨rfl, hq_X6_lead⟩ ⟨Nat.le_of_ble_eq_true rfl, Nat.le_of_ble_eq_true rfl⟩) (hs_preV hK hN (hs_subP (w := [_, _, _, _, _, _, _, _]) hP [0, 1, 2, 3, 4, 5, 6, 7] rfl) (hD.sub (ws' := [_, _, _, _, _, _, _, _]) [0, 1, 2, 3, 4, 5, 6, 7] (hs_upnd rfl) rfl) (ci := 5) (q0 := 0) rfl rfl) rfl rfl hl.1 rfl (lv_room (Nat.le_of_ble_eq_true rfl)) dX6_verdict_7 ⟨Nat.le_of_ble_eq_true rfl, Nat.le_of_ble_eq_true rfl⟩) hP hD hS hA [false, false, false, false, false, false, false, false] [] [_, _, _, _, _, _, _, _] rfl [0, 1, 2, 3, 4, 5, 6, 7] rfl [0, 1, 2, 3, 4, 5, 6, 7] (fun u_6 => [_, _, _, _, _, _, _, _]) (fun _ => rfl) (hs_upnd rfl) [false, false, false, false, false, false, false, false] (fun u_6 => [_, _, _, _, _, _, _, _]) (fun _ => rfl) (fun r_4 u_6 H locs hw_5 hP hD hS => ?_)
  refine lv_istore_n (lv' := [(3, .int r_4), (0, .ref t), (1, .int (nI j)), (2, .int kk)]) hx hb dX6_verdict_10 rfl hl (Nat.le_of_ble_eq_true rfl) rfl (fun ls hl => ?_)
  refine lv_iload_n hx hb dX6_verdict_11 rfl (lv_at hl 0 rfl) ?_
  refine va_mabs hx hb (hml.trans hl.1.symm) hown mm94 msabs mi mcabs (Nat.le_of_ble_eq_true rfl) (Nat.le_of_ble_eq_true rfl) (Nat.zero_le _) (Nat.zero_le _) dX6_verdict_12 ?_
  refine lv_aload_n hx hb dX6_verdict_15 rfl (lv_at hl 1 rfl) ?_
  refine va_get (D := D) (ci := 5) (v := .int (t_J 0)) (C := RX6) (T := TX6) (N := 15) hx hb hts hiX6 hown hK hP 0 rfl rfl 9 (Nat.le_of_ble_eq_true rfl) fl43 (fun _ h9 => h9) rfl dX6_verdict_16 ?_
  refine lv_icmp_gt (tgt := 24) hx hb dX6_verdict_19 rfl (fun c_7 => ?_) (fun c_7 => ?_)
  · refine lv_iload_n hx hb dX6_verdict_24 rfl (lv_at hl 0 rfl) ?_
    refine lv_if_le (tgt := 32) hx hb dX6_verdict_25 rfl (fun c_8 => ?_) (fun c_8 => ?_)
    · refine lv_iconst (v := 2) hx hb dX6_verdict_32 hki_2 ?_
      exact hs_iret hx hb hr hlocks hK hP hD hS () [0, 1, 2, 3, 4, 5, 6, 7] rfl (hs_upnd rfl) dX6_verdict_33 (trivial)
    · refine lv_iconst (v := 1) hx hb dX6_verdict_28 hki_1 ?_
      refine lv_goto (tgt := 33) hx hb dX6_verdict_29 rfl ?_
      exact hs_iret hx hb hr hlocks hK hP hD hS () [0, 1, 2, 3, 4, 5, 6, 7] rfl (hs_upnd rfl) dX6_verdict_33 (trivial)
  · refine lv_iconst (v := 0) hx hb dX6_verdict_22 hki_0 ?_
    exact hs_iret hx hb hr hlocks hK hP hD hS () [0, 1, 2, 3, 4, 5, 6, 7] rfl (hs_upnd rfl) dX6_verdict_23 (trivial)

set_option maxHeartbeats 4000000 in
set_option maxRecDepth 100000 in
theorem g_justTo (l : Launch) (D : va_G) (k : Nat → ClassId) (sz : Nat) (t : Nat) (t_a : Nat → Nat) (t_N : Nat → Nat) (t_J : Nat → Int32) (t_F : Nat → Nat → Int32) (kk : Int32) (hN0 : thN t_N) : MI l yX6_justTo wsX6_justTo ({ frames := 3, cells := 0, slots := 0, locals := 73 }) D k [.ref t, .int kk] [oqT t t_a t_N t_J, oqF0 k t_a t_F, oqF1 k t_a t_F, oqF2 k t_a t_F, oqF3 k t_a t_F, oqF4 k t_a t_F, oqF5 k t_a t_F, oqF6 k t_a t_F] sz (fun (r : Int32) (u : Unit) => True) (fun (u : Unit) => [oqT t t_a t_N t_J, oqF0 k t_a t_F, oqF1 k t_a t_F, oqF2 k t_a t_F, oqF3 k t_a t_F, oqF4 k t_a t_F, oqF5 k t_a t_F, oqF6 k t_a t_F]) := by
  refine Met.ofW (cc := cX6_justTo) (maxL := 4) (ret := (some .int)) hpn_X6 rfl ?_
  intro p e s m args below meth c s₁ B hml hv
  obtain ⟨rfl, hsz, hP, hK, hD0, hN⟩ := hv
  have hx := B.exec
  have hb := B.bytes
  have hr := B.returns
  have hlocks := B.notSynchronized
  have hts := atoms_spec (ws := wsX6_justTo) B.pre
  have hown := findClass_of_methodNamed B.named
  have hown : s.vm.findClass RX6 = some m.cls := hown
  have hiX6 : ∀ w ∈ u_ws RX6 TX6 15, w ∈ wsX6_justTo := fun w9 hw9 => List.mem_cons_of_mem _ (igX6 w9 hw9)
  have fl40 := hts (.fieldLink RX6 40 "HalfScales$Thing" "peopleCount" "I") (List.mem_cons_of_mem _ (hs_inG 1 55 rfl rfl))
  obtain ⟨I0, I1, ⟨I2, I2b⟩, I3, I4⟩ := hN0
  subst hsz
  have hD := hD0.self (sz := s.heap.size)
  generalize hAe : va_A [oqT t t_a t_N t_J, oqF0 k t_a t_F, oqF1 k t_a t_F, oqF2 k t_a t_F, oqF3 k t_a t_F, oqF4 k t_a t_F, oqF5 k t_a t_F, oqF6 k t_a t_F] s.heap.size = A at hD ⊢
  have hA : ∀ q : Nat, s.heap.size ≤ q → A q := fun q h => by rw [← hAe]; exact Or.inr h
  have hS : va_S A s.heap s.heap [] := va_S.rf
  have hl := lv_entry ([.ref t, .int kk]) (n := 4) (Nat.le_of_ble_eq_true rfl)
  rw [lg_entry_eq]
  generalize (lg_sl ([.ref t, .int kk]) ++ List.replicate (4 - (lg_sl ([.ref t, .int kk])).length) Slot.unset).toArray = ls at hl ⊢
  have hl : lv_has ls 4 [(0, .ref t), (1, .int kk)] := hl
  have hP : va_P D vwCl [oqT t t_a t_N t_J, oqF0 k t_a t_F, oqF1 k t_a t_F, oqF2 k t_a t_F, oqF3 k t_a t_F, oqF4 k t_a t_F, oqF5 k t_a t_F, oqF6 k t_a t_F] s.heap := hP
  refine lv_iconst (v := 0) hx hb dX6_justTo_0 hki_0 ?_
  refine lv_istore_n (lv' := [(2, .int 0), (0, .ref t), (1, .int kk)]) hx hb dX6_justTo_1 rfl hl (Nat.le_of_ble_eq_true rfl) rfl (fun ls hl => ?_)
  refine lv_iconst (v := 0) hx hb dX6_justTo_2 hki_0 ?_
  refine lv_istore_n (lv' := [(3, .int 0), (2, .int 0), (0, .ref t), (1, .int kk)]) hx hb dX6_justTo_3 rfl hl (Nat.le_of_ble_eq_true rfl) rfl (fun ls hl => ?_)
  refine hs_while (σ := Int32 × Nat) (fun x => x.2 ≤ t_N 1) (fun x => t_N 1 - x.2) (fun x => [oqT t t_a t_N t_J, oqF0 k t_a t_F, oqF1 k t_a t_F, oqF2 k t_a t_F, oqF3 k t_a t_F, oqF4 k t_a t_F, oqF5 k t_a t_F, oqF6 k t_a t_F]) (fun x => [(3, .int (nI (x.2))), (2, .int (x.1)), (0, .ref t), (1, .int kk)]) ?_ (0, 0) ?_ hP hD hS hl
  · intro x hI ih4 H locs ls hP hD hS hl
    obtain ⟨pe, q⟩ := x
    try dsimp only at hI
    have hP : va_P D vwCl [oqT t t_a t_N t_J, oqF0 k t_a t_F, oqF1 k t_a t_F, oqF2 k t_a t_F, oqF3 k t_a t_F, oqF4 k t_a t_F, oqF5 k t_a t_F, oqF6 k t_a t_F] H := hP
    have hD : va_D A [oqT t t_a t_N t_J, oqF0 k t_a t_F, oqF1 k t_a t_F, oqF2 k t_a t_F, oqF3 k t_a t_F, oqF4 k t_a t_F, oqF5 k t_a t_F, oqF6 k t_a t_F] := hD
    have hl : lv_has ls 4 [(3, .int (nI q)), (2, .int pe), (0, .ref t), (1, .int kk)] := hl
    refine lv_iload_n hx hb dX6_justTo_4 rfl (lv_at hl 0 rfl) ?_
    refine lv_aload_n hx hb dX6_justTo_5 rfl (lv_at hl 2 rfl) ?_
    refine va_get (D := D) (ci := 5) (v := .int (nI (t_N 1))) (C := RX6) (T := TX6) (N := 15) hx hb hts hiX6 hown hK hP 0 rfl rfl 8 (Nat.le_of_ble_eq_true rfl) fl40 (fun _ h9 => h9) rfl dX6_justTo_6 ?_
    refine lv_icmp_ge (tgt := 33) hx hb dX6_justTo_9 rfl (fun c_1 => ?_) (fun c_1 => ?_)
    · have nc_1 : (t_N 1) ≤ q := (nI_leI (a := (t_N 1)) (b := q) (by omega) (by omega)).mp c_1
      refine lv_iload_n hx hb dX6_justTo_33 rfl (lv_at hl 1 rfl) ?_
      exact hs_iret hx hb hr hlocks hK hP hD hS () [0, 1, 2, 3, 4, 5, 6, 7] rfl (hs_upnd rfl) dX6_justTo_34 (trivial)
    · have nc_1 : ¬ (t_N 1) ≤ q := fun hq9 => c_1 ((nI_leI (a := (t_N 1)) (b := q) (by omega) (by omega)).mpr hq9)
      refine lv_aload_n hx hb dX6_justTo_12 rfl (lv_at hl 2 rfl) ?_
      refine lv_iload_n hx hb dX6_justTo_13 rfl (lv_at hl 0 rfl) ?_
      refine lv_iload_n hx hb dX6_justTo_14 rfl (lv_at hl 3 rfl) ?_
      refine hs_ciM (va_runV (As := [.int (nI q), .int kk]) (rest := []) ⟨hx, hb, hml, hown, hts⟩ (g_verdict l D k _ t t_a t_N t_J t_F q kk (by first | assumption | exact ⟨by first | omega | (dsimp; omega), by first | omega | (dsimp; omega), ⟨by first | omega | (dsimp; omega), by first | omega | (dsimp; omega)⟩, by first | omega | (dsimp; omega), by first | omega | (dsimp; omega)⟩) (by omega)) (cwV 2 hts gX6_justTo_X6_verdict rfl rfl rfl ⟨rfl, hq_X6_verdict⟩ ⟨Nat.le_of_ble_eq_true rfl, Nat.le_of_ble_eq_true rfl⟩) (hs_preV hK hN (hs_subP (w := [_, _, _, _, _, _, _, _]) hP [0, 1, 2, 3, 4, 5, 6, 7] rfl) (hD.sub (ws' := [_, _, _, _, _, _, _, _]) [0, 1, 2, 3, 4, 5, 6, 7] (hs_upnd rfl) rfl) (ci := 5) (q0 := 0) rfl rfl) rfl rfl hl.1 rfl (lv_room (Nat.le_of_ble_eq_true rfl)) dX6_justTo_15 ⟨Nat.le_of_ble_eq_true rfl, Nat.le_of_ble_eq_true rfl⟩) hP hD hS hA [false, false, false, false, false, false, false, false] [] [_, _, _, _, _, _, _, _] rfl [0, 1, 2, 3, 4, 5, 6, 7] rfl [0, 1, 2, 3, 4, 5, 6, 7] (fun u_4 => [_, _, _, _, _, _, _, _]) (fun _ => rfl) (hs_upnd rfl) [false, false, false, false, false, false, false, false] (fun u_4 => [_, _, _, _, _, _, _, _]) (fun _ => rfl) (fun r_2 u_4 H locs hw_3 hP hD hS => ?_)
      refine lv_if_ne (tgt := 27) hx hb dX6_justTo_18 rfl (fun c_5 => ?_) (fun c_5 => ?_)
      · refine lv_iinc (v := nI (q + 1)) (lv' := [(3, .int (nI (q + 1))), (2, .int pe), (0, .ref t), (1, .int kk)]) hx hb dX6_justTo_27 hl (k := 0) rfl (nI_add (q) 1) (Nat.le_of_ble_eq_true rfl) rfl (fun ls hl => ?_)
        refine lv_goto (tgt := 4) hx hb dX6_justTo_30 rfl ?_
        exact ih4 (pe, q + 1) (by (try dsimp only); first | omega | (refine ⟨?_, ?_⟩ <;> first | omega | assumption)) (by (try dsimp only); omega) _ _ _ hP hD hS (lv_sub hl [0, 1, 2, 3] rfl)
      · refine lv_iload_n hx hb dX6_justTo_21 rfl (lv_at hl 1 rfl) ?_
        refine lv_iconst (v := 1) hx hb dX6_justTo_22 hki_1 ?_
        refine lv_iload_n hx hb dX6_justTo_23 rfl (lv_at hl 0 rfl) ?_
        refine lv_ishl hx hb dX6_justTo_24 ?_
        refine lv_ior hx hb dX6_justTo_25 ?_
        refine lv_istore_n (lv' := [(2, .int (pe ||| (1 <<< ((nI q) &&& 31)))), (3, .int (nI q)), (0, .ref t), (1, .int kk)]) hx hb dX6_justTo_26 rfl hl (Nat.le_of_ble_eq_true rfl) rfl (fun ls hl => ?_)
        refine lv_iinc (v := nI (q + 1)) (lv' := [(3, .int (nI (q + 1))), (2, .int (pe ||| (1 <<< ((nI q) &&& 31)))), (0, .ref t), (1, .int kk)]) hx hb dX6_justTo_27 hl (k := 1) rfl (nI_add (q) 1) (Nat.le_of_ble_eq_true rfl) rfl (fun ls hl => ?_)
        refine lv_goto (tgt := 4) hx hb dX6_justTo_30 rfl ?_
        exact ih4 (pe ||| (1 <<< ((nI q) &&& 31)), q + 1) (by (try dsimp only); first | omega | (refine ⟨?_, ?_⟩ <;> first | omega | assumption)) (by (try dsimp only); omega) _ _ _ hP hD hS (lv_sub hl [0, 1, 2, 3] rfl)
  · (try dsimp only); first | omega | (refine ⟨?_, ?_⟩ <;> first | omega | assumption)

set_option maxHeartbeats 4000000 in
set_option maxRecDepth 100000 in
theorem g_justInAll (l : Launch) (D : va_G) (k : Nat → ClassId) (sz : Nat) (t : Nat) (t_a : Nat → Nat) (t_N : Nat → Nat) (t_J : Nat → Int32) (t_F : Nat → Nat → Int32) (hN0 : thN t_N) : MI l yX6_justInAll wsX6_justInAll ({ frames := 2, cells := 0, slots := 0, locals := 49 }) D k [.ref t] [oqT t t_a t_N t_J, oqF0 k t_a t_F, oqF1 k t_a t_F, oqF2 k t_a t_F, oqF3 k t_a t_F, oqF4 k t_a t_F, oqF5 k t_a t_F, oqF6 k t_a t_F] sz (fun (r : Int32) (u : Unit) => True) (fun (u : Unit) => [oqT t t_a t_N t_J, oqF0 k t_a t_F, oqF1 k t_a t_F, oqF2 k t_a t_F, oqF3 k t_a t_F, oqF4 k t_a t_F, oqF5 k t_a t_F, oqF6 k t_a t_F]) := by
  refine Met.ofW (cc := cX6_justInAll) (maxL := 5) (ret := (some .int)) hpn_X6 rfl ?_
  intro p e s m args below meth c s₁ B hml hv
  obtain ⟨rfl, hsz, hP, hK, hD0, hN⟩ := hv
  have hx := B.exec
  have hb := B.bytes
  have hr := B.returns
  have hlocks := B.notSynchronized
  have hts := atoms_spec (ws := wsX6_justInAll) B.pre
  have hown := findClass_of_methodNamed B.named
  have hown : s.vm.findClass RX6 = some m.cls := hown
  have hiX6 : ∀ w ∈ u_ws RX6 TX6 15, w ∈ wsX6_justInAll := fun w9 hw9 => List.mem_cons_of_mem _ (igX6 w9 hw9)
  have fl40 := hts (.fieldLink RX6 40 "HalfScales$Thing" "peopleCount" "I") (List.mem_cons_of_mem _ (hs_inG 1 55 rfl rfl))
  have fl36 := hts (.fieldLink RX6 36 "HalfScales$Thing" "cellCount" "I") (List.mem_cons_of_mem _ (hs_inG 1 51 rfl rfl))
  have fl43 := hts (.fieldLink RX6 43 "HalfScales$Thing" "slip" "I") (List.mem_cons_of_mem _ (hs_inG 1 59 rfl rfl))
  have mm94 := hts (.methodLink RX6 94 Lib.Math.abs.name) (List.mem_cons_of_mem _ (hs_inG 3 68 rfl rfl))
  have msabs := hts (.static Lib.Math.abs.name) (List.mem_cons_of_mem _ (hs_inG 3 69 rfl rfl))
  have mi := hts (.initialized "java/lang/Math") (List.mem_cons_of_mem _ (hs_inG 1 14 rfl rfl))
  have mcabs := hts (.code Lib.Math.abs.name Lib.Math.abs.code 1 (some .int)) (List.mem_cons_of_mem _ (hs_inG 3 70 rfl rfl))
  obtain ⟨I0, I1, ⟨I2, I2b⟩, I3, I4⟩ := hN0
  subst hsz
  have hD := hD0.self (sz := s.heap.size)
  generalize hAe : va_A [oqT t t_a t_N t_J, oqF0 k t_a t_F, oqF1 k t_a t_F, oqF2 k t_a t_F, oqF3 k t_a t_F, oqF4 k t_a t_F, oqF5 k t_a t_F, oqF6 k t_a t_F] s.heap.size = A at hD ⊢
  have hA : ∀ q : Nat, s.heap.size ≤ q → A q := fun q h => by rw [← hAe]; exact Or.inr h
  have hS : va_S A s.heap s.heap [] := va_S.rf
  have hl := lv_entry ([.ref t]) (n := 5) (Nat.le_of_ble_eq_true rfl)
  rw [lg_entry_eq]
  generalize (lg_sl ([.ref t]) ++ List.replicate (5 - (lg_sl ([.ref t])).length) Slot.unset).toArray = ls at hl ⊢
  have hl : lv_has ls 5 [(0, .ref t)] := hl
  have hP : va_P D vwCl [oqT t t_a t_N t_J, oqF0 k t_a t_F, oqF1 k t_a t_F, oqF2 k t_a t_F, oqF3 k t_a t_F, oqF4 k t_a t_F, oqF5 k t_a t_F, oqF6 k t_a t_F] s.heap := hP
  refine lv_iconst (v := 0) hx hb dX6_justInAll_0 hki_0 ?_
  refine lv_istore_n (lv' := [(1, .int 0), (0, .ref t)]) hx hb dX6_justInAll_1 rfl hl (Nat.le_of_ble_eq_true rfl) rfl (fun ls hl => ?_)
  refine lv_iconst (v := 0) hx hb dX6_justInAll_2 hki_0 ?_
  refine lv_istore_n (lv' := [(2, .int 0), (1, .int 0), (0, .ref t)]) hx hb dX6_justInAll_3 rfl hl (Nat.le_of_ble_eq_true rfl) rfl (fun ls hl => ?_)
  refine hs_while (σ := Int32 × Nat) (fun x => x.2 ≤ t_N 1) (fun x => t_N 1 - x.2) (fun x => [oqT t t_a t_N t_J, oqF0 k t_a t_F, oqF1 k t_a t_F, oqF2 k t_a t_F, oqF3 k t_a t_F, oqF4 k t_a t_F, oqF5 k t_a t_F, oqF6 k t_a t_F]) (fun x => [(2, .int (nI (x.2))), (1, .int (x.1)), (0, .ref t)]) ?_ (0, 0) ?_ hP hD hS hl
  · intro x hI ih4 H locs ls hP hD hS hl
    obtain ⟨sum, q⟩ := x
    try dsimp only at hI
    have hP : va_P D vwCl [oqT t t_a t_N t_J, oqF0 k t_a t_F, oqF1 k t_a t_F, oqF2 k t_a t_F, oqF3 k t_a t_F, oqF4 k t_a t_F, oqF5 k t_a t_F, oqF6 k t_a t_F] H := hP
    have hD : va_D A [oqT t t_a t_N t_J, oqF0 k t_a t_F, oqF1 k t_a t_F, oqF2 k t_a t_F, oqF3 k t_a t_F, oqF4 k t_a t_F, oqF5 k t_a t_F, oqF6 k t_a t_F] := hD
    have hl : lv_has ls 5 [(2, .int (nI q)), (1, .int sum), (0, .ref t)] := hl
    refine lv_iload_n hx hb dX6_justInAll_4 rfl (lv_at hl 0 rfl) ?_
    refine lv_aload_n hx hb dX6_justInAll_5 rfl (lv_at hl 2 rfl) ?_
    refine va_get (D := D) (ci := 5) (v := .int (nI (t_N 1))) (C := RX6) (T := TX6) (N := 15) hx hb hts hiX6 hown hK hP 0 rfl rfl 8 (Nat.le_of_ble_eq_true rfl) fl40 (fun _ h9 => h9) rfl dX6_justInAll_6 ?_
    refine lv_icmp_ge (tgt := 75) hx hb dX6_justInAll_9 rfl (fun c_1 => ?_) (fun c_1 => ?_)
    · have nc_1 : (t_N 1) ≤ q := (nI_leI (a := (t_N 1)) (b := q) (by omega) (by omega)).mp c_1
      refine lv_iload_n hx hb dX6_justInAll_75 rfl (lv_at hl 1 rfl) ?_
      exact hs_iret hx hb hr hlocks hK hP hD hS () [0, 1, 2, 3, 4, 5, 6, 7] rfl (hs_upnd rfl) dX6_justInAll_76 (trivial)
    · have nc_1 : ¬ (t_N 1) ≤ q := fun hq9 => c_1 ((nI_leI (a := (t_N 1)) (b := q) (by omega) (by omega)).mpr hq9)
      refine lv_aload_n hx hb dX6_justInAll_12 rfl (lv_at hl 2 rfl) ?_
      refine lv_iload_n hx hb dX6_justInAll_13 rfl (lv_at hl 0 rfl) ?_
      refine lv_aload_n hx hb dX6_justInAll_14 rfl (lv_at hl 2 rfl) ?_
      refine hs_ciM (va_runV (As := []) (rest := [.int (nI q), .ref t]) ⟨hx, hb, hml, hown, hts⟩ (g_allCells l D k _ t t_a t_N t_J (by first | assumption | exact ⟨by first | omega | (dsimp; omega), by first | omega | (dsimp; omega), ⟨by first | omega | (dsimp; omega), by first | omega | (dsimp; omega)⟩, by first | omega | (dsimp; omega), by first | omega | (dsimp; omega)⟩)) (cwV 0 hts gX6_justInAll_X6_allCells rfl rfl rfl ⟨rfl, hq_X6_allCells⟩ ⟨Nat.le_of_ble_eq_true rfl, Nat.le_of_ble_eq_true rfl⟩) (hs_preV hK hN (hs_subP (w := [_]) hP [0] rfl) (hD.sub (ws' := [_]) [0] (hs_upnd rfl) rfl) (ci := 5) (q0 := 0) rfl rfl) rfl rfl hl.1 rfl (lv_room (Nat.le_of_ble_eq_true rfl)) dX6_justInAll_15 ⟨Nat.le_of_ble_eq_true rfl, Nat.le_of_ble_eq_true rfl⟩) hP hD hS hA [false, true, true, true, true, true, true, true] [_, _, _, _, _, _, _] [_] rfl [0] rfl [0] (fun u_4 => [_]) (fun _ => rfl) (hs_upnd rfl) [false, true, true, true, true, true, true, true] (fun u_4 => [_, _, _, _, _, _, _, _]) (fun _ => rfl) (fun r_2 u_4 H locs hw_3 hP hD hS => ?_)
      refine hs_topi (nI (2 ^ (t_N 0) - 1)) hw_3 ?_
      refine hs_ciM (va_runV (As := [.int (nI q), .int (nI (2 ^ (t_N 0) - 1))]) (rest := []) ⟨hx, hb, hml, hown, hts⟩ (g_worthOf l D k _ t t_a t_N t_J t_F q (nI (2 ^ (t_N 0) - 1)) (by first | assumption | exact ⟨by first | omega | (dsimp; omega), by first | omega | (dsimp; omega), ⟨by first | omega | (dsimp; omega), by first | omega | (dsimp; omega)⟩, by first | omega | (dsimp; omega), by first | omega | (dsimp; omega)⟩) (by omega)) (cwV 2 hts gX6_justInAll_X6_worthOf rfl rfl rfl ⟨rfl, hq_X6_worthOf⟩ ⟨Nat.le_of_ble_eq_true rfl, Nat.le_of_ble_eq_true rfl⟩) (hs_preV hK hN (hs_subP (w := [_, _, _, _, _, _, _, _]) hP [0, 1, 2, 3, 4, 5, 6, 7] rfl) (hD.sub (ws' := [_, _, _, _, _, _, _, _]) [0, 1, 2, 3, 4, 5, 6, 7] (hs_upnd rfl) rfl) (ci := 5) (q0 := 0) rfl rfl) rfl rfl hl.1 rfl (lv_room (Nat.le_of_ble_eq_true rfl)) dX6_justInAll_18 ⟨Nat.le_of_ble_eq_true rfl, Nat.le_of_ble_eq_true rfl⟩) hP hD hS hA [false, false, false, false, false, false, false, false] [] [_, _, _, _, _, _, _, _] rfl [0, 1, 2, 3, 4, 5, 6, 7] rfl [0, 1, 2, 3, 4, 5, 6, 7] (fun u_7 => [_, _, _, _, _, _, _, _]) (fun _ => rfl) (hs_upnd rfl) [false, false, false, false, false, false, false, false] (fun u_7 => [_, _, _, _, _, _, _, _]) (fun _ => rfl) (fun r_5 u_7 H locs hw_6 hP hD hS => ?_)
      refine lv_ineg hx hb dX6_justInAll_21 ?_
      refine lv_istore_n (lv' := [(3, .int (-r_5)), (2, .int (nI q)), (1, .int sum), (0, .ref t)]) hx hb dX6_justInAll_22 rfl hl (Nat.le_of_ble_eq_true rfl) rfl (fun ls hl => ?_)
      refine lv_iconst (v := 1) hx hb dX6_justInAll_23 hki_1 ?_
      refine lv_istore (lv' := [(4, .int 1), (3, .int (-r_5)), (2, .int (nI q)), (1, .int sum), (0, .ref t)]) hx hb dX6_justInAll_24 hl (Nat.le_of_ble_eq_true rfl) rfl (fun ls hl => ?_)
      refine hs_while (σ := Int32 × Int32 × Nat) (fun x => 1 ≤ x.2.2 ∧ x.2.2 ≤ t_N 0 + 1) (fun x => t_N 0 + 1 - x.2.2) (fun x => [oqT t t_a t_N t_J, oqF0 k t_a t_F, oqF1 k t_a t_F, oqF2 k t_a t_F, oqF3 k t_a t_F, oqF4 k t_a t_F, oqF5 k t_a t_F, oqF6 k t_a t_F]) (fun x => [(4, .int (nI (x.2.2))), (3, .int (x.2.1)), (2, .int (nI q)), (1, .int (x.1)), (0, .ref t)]) ?_ (sum, -r_5, 1) ?_ hP hD hS hl
      · intro x hI ih26 H locs ls hP hD hS hl
        obtain ⟨su2, more, kk⟩ := x
        try dsimp only at hI
        have hP : va_P D vwCl [_, _, _, _, _, _, _, _] H := hP
        have hD : va_D A [_, _, _, _, _, _, _, _] := hD
        have hl : lv_has ls 5 [(4, .int (nI kk)), (3, .int more), (2, .int (nI q)), (1, .int su2), (0, .ref t)] := hl
        refine lv_iload hx hb dX6_justInAll_26 (lv_at hl 0 rfl) ?_
        refine lv_aload_n hx hb dX6_justInAll_28 rfl (lv_at hl 4 rfl) ?_
        refine va_get (D := D) (ci := 5) (v := .int (nI (t_N 0))) (C := RX6) (T := TX6) (N := 15) hx hb hts hiX6 hown hK hP 0 rfl rfl 7 (Nat.le_of_ble_eq_true rfl) fl36 (fun _ h9 => h9) rfl dX6_justInAll_29 ?_
        refine lv_icmp_ge (tgt := 69) hx hb dX6_justInAll_32 rfl (fun c_8 => ?_) (fun c_8 => ?_)
        · have nc_8 : (t_N 0) ≤ kk := (nI_leI (a := (t_N 0)) (b := kk) (by omega) (by omega)).mp c_8
          refine lv_iinc (v := nI (q + 1)) (lv' := [(2, .int (nI (q + 1))), (4, .int (nI kk)), (3, .int more), (1, .int su2), (0, .ref t)]) hx hb dX6_justInAll_69 hl (k := 2) rfl (nI_add (q) 1) (Nat.le_of_ble_eq_true rfl) rfl (fun ls hl => ?_)
          refine lv_goto (tgt := 4) hx hb dX6_justInAll_72 rfl ?_
          exact ih4 (su2, q + 1) (by (try dsimp only); first | omega | (refine ⟨?_, ?_⟩ <;> first | omega | assumption)) (by (try dsimp only); omega) _ _ _ hP hD hS (lv_sub hl [0, 3, 4] rfl)
        · have nc_8 : ¬ (t_N 0) ≤ kk := fun hq9 => c_8 ((nI_leI (a := (t_N 0)) (b := kk) (by omega) (by omega)).mpr hq9)
          refine lv_iload_n hx hb dX6_justInAll_35 rfl (lv_at hl 1 rfl) ?_
          refine lv_iconst (v := 2) hx hb dX6_justInAll_36 hki_2 ?_
          refine lv_aload_n hx hb dX6_justInAll_37 rfl (lv_at hl 4 rfl) ?_
          refine lv_iload_n hx hb dX6_justInAll_38 rfl (lv_at hl 2 rfl) ?_
          refine lv_iload hx hb dX6_justInAll_39 (lv_at hl 0 rfl) ?_
          refine lv_iconst (v := 1) hx hb dX6_justInAll_41 hki_1 ?_
          refine lv_isub hx hb dX6_justInAll_42 ?_
          refine hs_topi (nI (kk - 1)) (pk_sub (a := kk) (b := 1) (by omega)) ?_
          refine hs_ciM (va_runV (As := [.int (nI q), .int (nI (kk - 1))]) (rest := [.int 2, .int more]) ⟨hx, hb, hml, hown, hts⟩ (g_worthOfCell l D k _ t t_a t_N t_J t_F q (kk - 1) (by omega) (by omega)) (cwV 2 hts gX6_justInAll_X6_worthOfCell rfl rfl rfl ⟨rfl, hq_X6_worthOfCell⟩ ⟨Nat.le_of_ble_eq_true rfl, Nat.le_of_ble_eq_true rfl⟩) (hs_preV hK hN (hs_subP (w := [_, _, _, _, _, _, _, _]) hP [0, 1, 2, 3, 4, 5, 6, 7] rfl) (hD.sub (ws' := [_, _, _, _, _, _, _, _]) [0, 1, 2, 3, 4, 5, 6, 7] (hs_upnd rfl) rfl) (ci := 5) (q0 := 0) rfl rfl) rfl rfl hl.1 rfl (lv_room (Nat.le_of_ble_eq_true rfl)) dX6_justInAll_43 ⟨Nat.le_of_ble_eq_true rfl, Nat.le_of_ble_eq_true rfl⟩) hP hD hS hA [false, false, false, false, false, false, false, false] [] [_, _, _, _, _, _, _, _] rfl [0, 1, 2, 3, 4, 5, 6, 7] rfl [0, 1, 2, 3, 4, 5, 6, 7] (fun u_11 => [_, _, _, _, _, _, _, _]) (fun _ => rfl) (hs_upnd rfl) [false, false, false, false, false, false, false, false] (fun u_11 => [_, _, _, _, _, _, _, _]) (fun _ => rfl) (fun r_9 u_11 H locs hw_10 hP hD hS => ?_)
          refine lv_imul hx hb dX6_justInAll_46 ?_
          refine lv_iadd hx hb dX6_justInAll_47 ?_
          refine lv_istore_n (lv' := [(3, .int (more + (2 * r_9))), (4, .int (nI kk)), (2, .int (nI q)), (1, .int su2), (0, .ref t)]) hx hb dX6_justInAll_48 rfl hl (Nat.le_of_ble_eq_true rfl) rfl (fun ls hl => ?_)
          refine lv_iload_n hx hb dX6_justInAll_49 rfl (lv_at hl 0 rfl) ?_
          refine va_mabs hx hb (hml.trans hl.1.symm) hown mm94 msabs mi mcabs (Nat.le_of_ble_eq_true rfl) (Nat.le_of_ble_eq_true rfl) (Nat.zero_le _) (Nat.zero_le _) dX6_justInAll_50 ?_
          refine lv_aload_n hx hb dX6_justInAll_53 rfl (lv_at hl 4 rfl) ?_
          refine va_get (D := D) (ci := 5) (v := .int (t_J 0)) (C := RX6) (T := TX6) (N := 15) hx hb hts hiX6 hown hK hP 0 rfl rfl 9 (Nat.le_of_ble_eq_true rfl) fl43 (fun _ h9 => h9) rfl dX6_justInAll_54 ?_
          refine lv_icmp_gt (tgt := 63) hx hb dX6_justInAll_57 rfl (fun c_12 => ?_) (fun c_12 => ?_)
          · refine lv_iinc (v := nI (kk + 1)) (lv' := [(4, .int (nI (kk + 1))), (3, .int (more + (2 * r_9))), (2, .int (nI q)), (1, .int su2), (0, .ref t)]) hx hb dX6_justInAll_63 hl (k := 1) rfl (nI_add (kk) 1) (Nat.le_of_ble_eq_true rfl) rfl (fun ls hl => ?_)
            refine lv_goto (tgt := 26) hx hb dX6_justInAll_66 rfl ?_
            exact ih26 (su2, more + (2 * r_9), kk + 1) (by (try dsimp only); first | omega | (refine ⟨?_, ?_⟩ <;> first | omega | assumption)) (by (try dsimp only); omega) _ _ _ hP hD hS (lv_sub hl [0, 1, 2, 3, 4] rfl)
          · refine lv_iinc (v := su2 + 1) (lv' := [(1, .int (su2 + 1)), (3, .int (more + (2 * r_9))), (4, .int (nI kk)), (2, .int (nI q)), (0, .ref t)]) hx hb dX6_justInAll_60 hl (k := 3) rfl rfl (Nat.le_of_ble_eq_true rfl) rfl (fun ls hl => ?_)
            refine lv_iinc (v := nI (kk + 1)) (lv' := [(4, .int (nI (kk + 1))), (1, .int (su2 + 1)), (3, .int (more + (2 * r_9))), (2, .int (nI q)), (0, .ref t)]) hx hb dX6_justInAll_63 hl (k := 2) rfl (nI_add (kk) 1) (Nat.le_of_ble_eq_true rfl) rfl (fun ls hl => ?_)
            refine lv_goto (tgt := 26) hx hb dX6_justInAll_66 rfl ?_
            exact ih26 (su2 + 1, more + (2 * r_9), kk + 1) (by (try dsimp only); first | omega | (refine ⟨?_, ?_⟩ <;> first | omega | assumption)) (by (try dsimp only); omega) _ _ _ hP hD hS (lv_sub hl [0, 2, 3, 1, 4] rfl)
      · (try dsimp only); first | omega | (refine ⟨?_, ?_⟩ <;> first | omega | assumption)
  · (try dsimp only); first | omega | (refine ⟨?_, ?_⟩ <;> first | omega | assumption)

set_option maxHeartbeats 4000000 in
set_option maxRecDepth 100000 in
theorem g_isAsSeen (l : Launch) (D : va_G) (k : Nat → ClassId) (sz : Nat) (t : Nat) (t_a : Nat → Nat) (t_N : Nat → Nat) (t_J : Nat → Int32) (t_F : Nat → Nat → Int32) (hN0 : thN t_N) (hF : thF t_N t_F) : MI l yX6_isAsSeen wsX6_isAsSeen ({ frames := 3, cells := 0, slots := 0, locals := 73 }) D k [.ref t] [oqT t t_a t_N t_J, oqF0 k t_a t_F, oqF1 k t_a t_F, oqF2 k t_a t_F, oqF3 k t_a t_F, oqF4 k t_a t_F, oqF5 k t_a t_F, oqF6 k t_a t_F] sz (fun (r : Int32) (u : Unit) => True) (fun (u : Unit) => [oqT t t_a t_N t_J, oqF0 k t_a t_F, oqF1 k t_a t_F, oqF2 k t_a t_F, oqF3 k t_a t_F, oqF4 k t_a t_F, oqF5 k t_a t_F, oqF6 k t_a t_F]) := by
  refine Met.ofW (cc := cX6_isAsSeen) (maxL := 2) (ret := (some .boolean)) hpn_X6 rfl ?_
  intro p e s m args below meth c s₁ B hml hv
  obtain ⟨rfl, hsz, hP, hK, hD0, hN⟩ := hv
  have hx := B.exec
  have hb := B.bytes
  have hr := B.returns
  have hlocks := B.notSynchronized
  have hts := atoms_spec (ws := wsX6_isAsSeen) B.pre
  have hown := findClass_of_methodNamed B.named
  have hown : s.vm.findClass RX6 = some m.cls := hown
  have hiX6 : ∀ w ∈ u_ws RX6 TX6 15, w ∈ wsX6_isAsSeen := fun w9 hw9 => List.mem_cons_of_mem _ (igX6 w9 hw9)
  have fl58 := hts (.fieldLink RX6 58 "HalfScales$Thing" "seenCount" "I") (List.mem_cons_of_mem _ (hs_inG 1 76 rfl rfl))
  have fl27 := hts (.fieldLink RX6 27 "HalfScales$Thing" "seenCut" "[I") (List.mem_cons_of_mem _ (hs_inG 1 49 rfl rfl))
  have fl24 := hts (.fieldLink RX6 24 "HalfScales$Thing" "seenBy" "[I") (List.mem_cons_of_mem _ (hs_inG 1 48 rfl rfl))
  have fl30 := hts (.fieldLink RX6 30 "HalfScales$Thing" "seenFound" "[I") (List.mem_cons_of_mem _ (hs_inG 1 50 rfl rfl))
  obtain ⟨I0, I1, ⟨I2, I2b⟩, I3, I4⟩ := hN0
  subst hsz
  have hD := hD0.self (sz := s.heap.size)
  generalize hAe : va_A [oqT t t_a t_N t_J, oqF0 k t_a t_F, oqF1 k t_a t_F, oqF2 k t_a t_F, oqF3 k t_a t_F, oqF4 k t_a t_F, oqF5 k t_a t_F, oqF6 k t_a t_F] s.heap.size = A at hD ⊢
  have hA : ∀ q : Nat, s.heap.size ≤ q → A q := fun q h => by rw [← hAe]; exact Or.inr h
  have hS : va_S A s.heap s.heap [] := va_S.rf
  have hl := lv_entry ([.ref t]) (n := 2) (Nat.le_of_ble_eq_true rfl)
  rw [lg_entry_eq]
  generalize (lg_sl ([.ref t]) ++ List.replicate (2 - (lg_sl ([.ref t])).length) Slot.unset).toArray = ls at hl ⊢
  have hl : lv_has ls 2 [(0, .ref t)] := hl
  have hP : va_P D vwCl [oqT t t_a t_N t_J, oqF0 k t_a t_F, oqF1 k t_a t_F, oqF2 k t_a t_F, oqF3 k t_a t_F, oqF4 k t_a t_F, oqF5 k t_a t_F, oqF6 k t_a t_F] s.heap := hP
  refine lv_iconst (v := 0) hx hb dX6_isAsSeen_0 hki_0 ?_
  refine lv_istore_n (lv' := [(1, .int 0), (0, .ref t)]) hx hb dX6_isAsSeen_1 rfl hl (Nat.le_of_ble_eq_true rfl) rfl (fun ls hl => ?_)
  refine hs_while (σ := Nat) (fun x => x ≤ t_N 4) (fun x => t_N 4 - x) (fun x => [oqT t t_a t_N t_J, oqF0 k t_a t_F, oqF1 k t_a t_F, oqF2 k t_a t_F, oqF3 k t_a t_F, oqF4 k t_a t_F, oqF5 k t_a t_F, oqF6 k t_a t_F]) (fun x => [(1, .int (nI (x))), (0, .ref t)]) ?_ (0) ?_ hP hD hS hl
  · intro x hI ih2 H locs ls hP hD hS hl
    obtain ⟨i, rfl⟩ : ∃ z, z = x := ⟨_, rfl⟩
    try dsimp only at hI
    have hP : va_P D vwCl [oqT t t_a t_N t_J, oqF0 k t_a t_F, oqF1 k t_a t_F, oqF2 k t_a t_F, oqF3 k t_a t_F, oqF4 k t_a t_F, oqF5 k t_a t_F, oqF6 k t_a t_F] H := hP
    have hD : va_D A [oqT t t_a t_N t_J, oqF0 k t_a t_F, oqF1 k t_a t_F, oqF2 k t_a t_F, oqF3 k t_a t_F, oqF4 k t_a t_F, oqF5 k t_a t_F, oqF6 k t_a t_F] := hD
    have hl : lv_has ls 2 [(1, .int (nI i)), (0, .ref t)] := hl
    refine lv_iload_n hx hb dX6_isAsSeen_2 rfl (lv_at hl 0 rfl) ?_
    refine lv_aload_n hx hb dX6_isAsSeen_3 rfl (lv_at hl 1 rfl) ?_
    refine va_get (D := D) (ci := 5) (v := .int (nI (t_N 4))) (C := RX6) (T := TX6) (N := 15) hx hb hts hiX6 hown hK hP 0 rfl rfl 14 (Nat.le_of_ble_eq_true rfl) fl58 (fun _ h9 => h9) rfl dX6_isAsSeen_4 ?_
    refine lv_icmp_ge (tgt := 56) hx hb dX6_isAsSeen_7 rfl (fun c_1 => ?_) (fun c_1 => ?_)
    · have nc_1 : (t_N 4) ≤ i := (nI_leI (a := (t_N 4)) (b := i) (by omega) (by omega)).mp c_1
      refine lv_iconst (v := 1) hx hb dX6_isAsSeen_56 hki_1 ?_
      exact hs_zret hx hb hr hlocks hK hP hD hS () [0, 1, 2, 3, 4, 5, 6, 7] rfl (hs_upnd rfl) dX6_isAsSeen_57 rfl (trivial)
    · have nc_1 : ¬ (t_N 4) ≤ i := fun hq9 => c_1 ((nI_leI (a := (t_N 4)) (b := i) (by omega) (by omega)).mpr hq9)
      refine lv_aload_n hx hb dX6_isAsSeen_10 rfl (lv_at hl 1 rfl) ?_
      refine lv_aload_n hx hb dX6_isAsSeen_11 rfl (lv_at hl 1 rfl) ?_
      refine va_get (D := D) (ci := 5) (v := .ref (t_a 5)) (C := RX6) (T := TX6) (N := 15) hx hb hts hiX6 hown hK hP 0 rfl rfl 5 (Nat.le_of_ble_eq_true rfl) fl27 (fun _ h9 => h9) rfl dX6_isAsSeen_12 ?_
      refine lv_iload_n hx hb dX6_isAsSeen_15 rfl (lv_at hl 0 rfl) ?_
      refine va_iald hx hb hK hP 6 0 rfl rfl (vp_in_nI (show i < 6 by omega) (by decide)) dX6_isAsSeen_16 ?_
      refine hs_ciM (va_runV (As := [.int ((t_F 5) (nI i).toNatClampNeg)]) (rest := []) ⟨hx, hb, hml, hown, hts⟩ (g_isCut l D k _ t t_a t_N t_J ((t_F 5) (nI i).toNatClampNeg) (by first | assumption | exact ⟨by first | omega | (dsimp; omega), by first | omega | (dsimp; omega), ⟨by first | omega | (dsimp; omega), by first | omega | (dsimp; omega)⟩, by first | omega | (dsimp; omega), by first | omega | (dsimp; omega)⟩)) (cwV 1 hts gX6_isAsSeen_X6_isCut rfl rfl rfl ⟨rfl, hq_X6_isCut⟩ ⟨Nat.le_of_ble_eq_true rfl, Nat.le_of_ble_eq_true rfl⟩) (hs_preV hK hN (hs_subP (w := [_]) hP [0] rfl) (hD.sub (ws' := [_]) [0] (hs_upnd rfl) rfl) (ci := 5) (q0 := 0) rfl rfl) rfl rfl hl.1 rfl (lv_room (Nat.le_of_ble_eq_true rfl)) dX6_isAsSeen_17 ⟨Nat.le_of_ble_eq_true rfl, Nat.le_of_ble_eq_true rfl⟩) hP hD hS hA [false, true, true, true, true, true, true, true] [_, _, _, _, _, _, _] [_] rfl [0] rfl [0] (fun u_4 => [_]) (fun _ => rfl) (hs_upnd rfl) [false, true, true, true, true, true, true, true] (fun u_4 => [_, _, _, _, _, _, _, _]) (fun _ => rfl) (fun r_2 u_4 H locs hw_3 hP hD hS => ?_)
      refine hs_topi (hsb (hslt1 ((t_F 5) (nI i).toNatClampNeg) (t_N 0))) hw_3 ?_
      refine lv_if_eq (tgt := 48) hx hb dX6_isAsSeen_20 rfl (fun c_5 => ?_) (fun c_5 => ?_)
      · refine lv_iconst (v := 0) hx hb dX6_isAsSeen_48 hki_0 ?_
        exact hs_zret hx hb hr hlocks hK hP hD hS () [0, 1, 2, 3, 4, 5, 6, 7] rfl (hs_upnd rfl) dX6_isAsSeen_49 rfl (trivial)
      · refine lv_aload_n hx hb dX6_isAsSeen_23 rfl (lv_at hl 1 rfl) ?_
        refine lv_aload_n hx hb dX6_isAsSeen_24 rfl (lv_at hl 1 rfl) ?_
        refine va_get (D := D) (ci := 5) (v := .ref (t_a 4)) (C := RX6) (T := TX6) (N := 15) hx hb hts hiX6 hown hK hP 0 rfl rfl 4 (Nat.le_of_ble_eq_true rfl) fl24 (fun _ h9 => h9) rfl dX6_isAsSeen_25 ?_
        refine lv_iload_n hx hb dX6_isAsSeen_28 rfl (lv_at hl 0 rfl) ?_
        refine va_iald hx hb hK hP 5 0 rfl rfl (vp_in_nI (show i < 6 by omega) (by decide)) dX6_isAsSeen_29 ?_
        obtain ⟨jj, hjj, ejj⟩ := vp_in_of (hF.2 (i) (by omega)) (by decide)
        refine hs_topi (nI jj) (by rw [nI_clamp (by omega)]; exact ejj) ?_
        refine lv_aload_n hx hb dX6_isAsSeen_30 rfl (lv_at hl 1 rfl) ?_
        refine va_get (D := D) (ci := 5) (v := .ref (t_a 5)) (C := RX6) (T := TX6) (N := 15) hx hb hts hiX6 hown hK hP 0 rfl rfl 5 (Nat.le_of_ble_eq_true rfl) fl27 (fun _ h9 => h9) rfl dX6_isAsSeen_31 ?_
        refine lv_iload_n hx hb dX6_isAsSeen_34 rfl (lv_at hl 0 rfl) ?_
        refine va_iald hx hb hK hP 6 0 rfl rfl (vp_in_nI (show i < 6 by omega) (by decide)) dX6_isAsSeen_35 ?_
        refine hs_ciM (va_runV (As := [.int (nI jj), .int ((t_F 5) (nI i).toNatClampNeg)]) (rest := []) ⟨hx, hb, hml, hown, hts⟩ (g_verdict l D k _ t t_a t_N t_J t_F jj ((t_F 5) (nI i).toNatClampNeg) (by first | assumption | exact ⟨by first | omega | (dsimp; omega), by first | omega | (dsimp; omega), ⟨by first | omega | (dsimp; omega), by first | omega | (dsimp; omega)⟩, by first | omega | (dsimp; omega), by first | omega | (dsimp; omega)⟩) (by omega)) (cwV 2 hts gX6_isAsSeen_X6_verdict rfl rfl rfl ⟨rfl, hq_X6_verdict⟩ ⟨Nat.le_of_ble_eq_true rfl, Nat.le_of_ble_eq_true rfl⟩) (hs_preV hK hN (hs_subP (w := [_, _, _, _, _, _, _, _]) hP [0, 1, 2, 3, 4, 5, 6, 7] rfl) (hD.sub (ws' := [_, _, _, _, _, _, _, _]) [0, 1, 2, 3, 4, 5, 6, 7] (hs_upnd rfl) rfl) (ci := 5) (q0 := 0) rfl rfl) rfl rfl hl.1 rfl (lv_room (Nat.le_of_ble_eq_true rfl)) dX6_isAsSeen_36 ⟨Nat.le_of_ble_eq_true rfl, Nat.le_of_ble_eq_true rfl⟩) hP hD hS hA [false, false, false, false, false, false, false, false] [] [_, _, _, _, _, _, _, _] rfl [0, 1, 2, 3, 4, 5, 6, 7] rfl [0, 1, 2, 3, 4, 5, 6, 7] (fun u_8 => [_, _, _, _, _, _, _, _]) (fun _ => rfl) (hs_upnd rfl) [false, false, false, false, false, false, false, false] (fun u_8 => [_, _, _, _, _, _, _, _]) (fun _ => rfl) (fun r_6 u_8 H locs hw_7 hP hD hS => ?_)
        refine lv_aload_n hx hb dX6_isAsSeen_39 rfl (lv_at hl 1 rfl) ?_
        refine va_get (D := D) (ci := 5) (v := .ref (t_a 6)) (C := RX6) (T := TX6) (N := 15) hx hb hts hiX6 hown hK hP 0 rfl rfl 6 (Nat.le_of_ble_eq_true rfl) fl30 (fun _ h9 => h9) rfl dX6_isAsSeen_40 ?_
        refine lv_iload_n hx hb dX6_isAsSeen_43 rfl (lv_at hl 0 rfl) ?_
        refine va_iald hx hb hK hP 7 0 rfl rfl (vp_in_nI (show i < 6 by omega) (by decide)) dX6_isAsSeen_44 ?_
        refine lv_icmp_eq (tgt := 50) hx hb dX6_isAsSeen_45 rfl (fun c_9 => ?_) (fun c_9 => ?_)
        · refine lv_iinc (v := nI (i + 1)) (lv' := [(1, .int (nI (i + 1))), (0, .ref t)]) hx hb dX6_isAsSeen_50 hl (k := 0) rfl (nI_add (i) 1) (Nat.le_of_ble_eq_true rfl) rfl (fun ls hl => ?_)
          refine lv_goto (tgt := 2) hx hb dX6_isAsSeen_53 rfl ?_
          exact ih2 (i + 1) (by (try dsimp only); first | omega | (refine ⟨?_, ?_⟩ <;> first | omega | assumption)) (by (try dsimp only); omega) _ _ _ hP hD hS (lv_sub hl [0, 1] rfl)
        · refine lv_iconst (v := 0) hx hb dX6_isAsSeen_48 hki_0 ?_
          exact hs_zret hx hb hr hlocks hK hP hD hS () [0, 1, 2, 3, 4, 5, 6, 7] rfl (hs_upnd rfl) dX6_isAsSeen_49 rfl (trivial)
  · (try dsimp only); first | omega | (refine ⟨?_, ?_⟩ <;> first | omega | assumption)

set_option maxHeartbeats 4000000 in
set_option maxRecDepth 100000 in
theorem g_addPerson (l : Launch) (D : va_G) (k : Nat → ClassId) (sz : Nat) (t : Nat) (t_a : Nat → Nat) (t_N : Nat → Nat) (t_J : Nat → Int32) (t_F : Nat → Nat → Int32) (v : Int32) (h4 : t_N 1 < 4) : MV l yX6_addPerson wsX6_addPerson ({ frames := 0, cells := 0, slots := 0, locals := 0 }) D k [.ref t, .int v] [oqT t t_a t_N t_J, oqF0 k t_a t_F, oqF1 k t_a t_F, oqF2 k t_a t_F, oqF3 k t_a t_F, oqF4 k t_a t_F, oqF5 k t_a t_F, oqF6 k t_a t_F] sz (fun (u : Unit) => True) (fun (u : Unit) => [oq5 t (t_a 0) (t_a 1) (t_a 2) (t_a 3) (t_a 4) (t_a 5) (t_a 6) (nI (t_N 0)) (nI ((t_N 1) + 1)) (t_J 0) (t_J 1) (t_J 2) (nI (t_N 2)) (nI (t_N 3)) (nI (t_N 4)), oqF0 k t_a t_F, oqI k (t_a 1) 4 (upd (t_F 1) ((nI (t_N 1)).toNatClampNeg) v), oqF2 k t_a t_F, oqF3 k t_a t_F, oqF4 k t_a t_F, oqF5 k t_a t_F, oqF6 k t_a t_F]) := by
  refine Met.ofW (cc := cX6_addPerson) (maxL := 2) (ret := none) hpn_X6 rfl ?_
  intro p e s m args below meth c s₁ B hml hv
  obtain ⟨rfl, hsz, hP, hK, hD0, hN⟩ := hv
  have hx := B.exec
  have hb := B.bytes
  have hr := B.returns
  have hlocks := B.notSynchronized
  have hts := atoms_spec (ws := wsX6_addPerson) B.pre
  have hown := findClass_of_methodNamed B.named
  have hown : s.vm.findClass RX6 = some m.cls := hown
  have hiX6 : ∀ w ∈ u_ws RX6 TX6 15, w ∈ wsX6_addPerson := fun w9 hw9 => List.mem_cons_of_mem _ (igX6 w9 hw9)
  have fl15 := hts (.fieldLink RX6 15 "HalfScales$Thing" "kindOf" "[I") (List.mem_cons_of_mem _ (hs_inG 1 38 rfl rfl))
  have fl40 := hts (.fieldLink RX6 40 "HalfScales$Thing" "peopleCount" "I") (List.mem_cons_of_mem _ (hs_inG 1 55 rfl rfl))
  subst hsz
  have hD := hD0.self (sz := s.heap.size)
  generalize hAe : va_A [oqT t t_a t_N t_J, oqF0 k t_a t_F, oqF1 k t_a t_F, oqF2 k t_a t_F, oqF3 k t_a t_F, oqF4 k t_a t_F, oqF5 k t_a t_F, oqF6 k t_a t_F] s.heap.size = A at hD ⊢
  have hA : ∀ q : Nat, s.heap.size ≤ q → A q := fun q h => by rw [← hAe]; exact Or.inr h
  have hS : va_S A s.heap s.heap [] := va_S.rf
  have hl := lv_entry ([.ref t, .int v]) (n := 2) (Nat.le_of_ble_eq_true rfl)
  rw [lg_entry_eq]
  generalize (lg_sl ([.ref t, .int v]) ++ List.replicate (2 - (lg_sl ([.ref t, .int v])).length) Slot.unset).toArray = ls at hl ⊢
  have hl : lv_has ls 2 [(0, .ref t), (1, .int v)] := hl
  have hP : va_P D vwCl [oqT t t_a t_N t_J, oqF0 k t_a t_F, oqF1 k t_a t_F, oqF2 k t_a t_F, oqF3 k t_a t_F, oqF4 k t_a t_F, oqF5 k t_a t_F, oqF6 k t_a t_F] s.heap := hP
  refine lv_aload_n hx hb dX6_addPerson_0 rfl (lv_at hl 0 rfl) ?_
  refine va_get (D := D) (ci := 5) (v := .ref (t_a 1)) (C := RX6) (T := TX6) (N := 15) hx hb hts hiX6 hown hK hP 0 rfl rfl 1 (Nat.le_of_ble_eq_true rfl) fl15 (fun _ h9 => h9) rfl dX6_addPerson_1 ?_
  refine lv_aload_n hx hb dX6_addPerson_4 rfl (lv_at hl 0 rfl) ?_
  refine va_get (D := D) (ci := 5) (v := .int (nI (t_N 1))) (C := RX6) (T := TX6) (N := 15) hx hb hts hiX6 hown hK hP 0 rfl rfl 8 (Nat.le_of_ble_eq_true rfl) fl40 (fun _ h9 => h9) rfl dX6_addPerson_5 ?_
  refine lv_iload_n hx hb dX6_addPerson_8 rfl (lv_at hl 1 rfl) ?_
  refine va_iast hx hb hK hP hD hS 2 0 rfl rfl (vp_in_nI (show (t_N 1) < 4 by omega) (by decide)) dX6_addPerson_9 (fun H locs hP hD hS => ?_)
  have hP : va_P D vwCl [oqT t t_a t_N t_J, oqF0 k t_a t_F, oqI k (t_a 1) 4 (upd (t_F 1) ((nI (t_N 1)).toNatClampNeg) v), oqF2 k t_a t_F, oqF3 k t_a t_F, oqF4 k t_a t_F, oqF5 k t_a t_F, oqF6 k t_a t_F] H := hP
  have hD : va_D A [oqT t t_a t_N t_J, oqF0 k t_a t_F, oqI k (t_a 1) 4 (upd (t_F 1) ((nI (t_N 1)).toNatClampNeg) v), oqF2 k t_a t_F, oqF3 k t_a t_F, oqF4 k t_a t_F, oqF5 k t_a t_F, oqF6 k t_a t_F] := hD
  refine lv_aload_n hx hb dX6_addPerson_10 rfl (lv_at hl 0 rfl) ?_
  refine lv_dup hx hb dX6_addPerson_11 rfl ?_
  refine va_get (D := D) (ci := 5) (v := .int (nI (t_N 1))) (C := RX6) (T := TX6) (N := 15) hx hb hts hiX6 hown hK hP 0 rfl rfl 8 (Nat.le_of_ble_eq_true rfl) fl40 (fun _ h9 => h9) rfl dX6_addPerson_12 ?_
  refine lv_iconst (v := 1) hx hb dX6_addPerson_15 hki_1 ?_
  refine lv_iadd hx hb dX6_addPerson_16 ?_
  refine hs_topi (nI ((t_N 1) + 1)) (nI_add ((t_N 1)) (1)) ?_
  refine va_put (D := D) (ci := 5) (v := .int (nI ((t_N 1) + 1))) (ty := .int) (C := RX6) (T := TX6) (N := 15) hx hb hts hiX6 tyX6 tyX6_ok nmX6 hown hK hP hD hS 0 rfl rfl 8 (Nat.le_of_ble_eq_true rfl) fl40 (fun _ h9 => h9) rfl (by decide +kernel) rfl rfl (Nat.le_of_ble_eq_true rfl) dX6_addPerson_17 (fun H locs hP hD hS => ?_)
  have hP : va_P D vwCl [oq5 t (t_a 0) (t_a 1) (t_a 2) (t_a 3) (t_a 4) (t_a 5) (t_a 6) (nI (t_N 0)) (nI ((t_N 1) + 1)) (t_J 0) (t_J 1) (t_J 2) (nI (t_N 2)) (nI (t_N 3)) (nI (t_N 4)), _, _, _, _, _, _, _] H := hP
  have hD : va_D A [oq5 t (t_a 0) (t_a 1) (t_a 2) (t_a 3) (t_a 4) (t_a 5) (t_a 6) (nI (t_N 0)) (nI ((t_N 1) + 1)) (t_J 0) (t_J 1) (t_J 2) (nI (t_N 2)) (nI (t_N 3)) (nI (t_N 4)), _, _, _, _, _, _, _] := hD
  exact hs_vret hx hb hr hlocks hK hP hD hS () [0, 1, 2, 3, 4, 5, 6, 7] rfl (hs_upnd rfl) dX6_addPerson_20 (trivial)

set_option maxHeartbeats 4000000 in
set_option maxRecDepth 100000 in
theorem g_addPair (l : Launch) (D : va_G) (k : Nat → ClassId) (sz : Nat) (t : Nat) (t_a : Nat → Nat) (t_N : Nat → Nat) (t_J : Nat → Int32) (t_F : Nat → Nat → Int32) (a : Int32) (b : Int32) (h8 : t_N 3 < 8) : MV l yX6_addPair wsX6_addPair ({ frames := 0, cells := 0, slots := 0, locals := 0 }) D k [.ref t, .int a, .int b] [oqT t t_a t_N t_J, oqF0 k t_a t_F, oqF1 k t_a t_F, oqF2 k t_a t_F, oqF3 k t_a t_F, oqF4 k t_a t_F, oqF5 k t_a t_F, oqF6 k t_a t_F] sz (fun (u : Unit) => True) (fun (u : Unit) => [oq5 t (t_a 0) (t_a 1) (t_a 2) (t_a 3) (t_a 4) (t_a 5) (t_a 6) (nI (t_N 0)) (nI (t_N 1)) (t_J 0) (t_J 1) (t_J 2) (nI (t_N 2)) (nI ((t_N 3) + 1)) (nI (t_N 4)), oqF0 k t_a t_F, oqF1 k t_a t_F, oqI k (t_a 2) 8 (upd (t_F 2) ((nI (t_N 3)).toNatClampNeg) a), oqI k (t_a 3) 8 (upd (t_F 3) ((nI (t_N 3)).toNatClampNeg) b), oqF4 k t_a t_F, oqF5 k t_a t_F, oqF6 k t_a t_F]) := by
  refine Met.ofW (cc := cX6_addPair) (maxL := 3) (ret := none) hpn_X6 rfl ?_
  intro p e s m args below meth c s₁ B hml hv
  obtain ⟨rfl, hsz, hP, hK, hD0, hN⟩ := hv
  have hx := B.exec
  have hb := B.bytes
  have hr := B.returns
  have hlocks := B.notSynchronized
  have hts := atoms_spec (ws := wsX6_addPair) B.pre
  have hown := findClass_of_methodNamed B.named
  have hown : s.vm.findClass RX6 = some m.cls := hown
  have hiX6 : ∀ w ∈ u_ws RX6 TX6 15, w ∈ wsX6_addPair := fun w9 hw9 => List.mem_cons_of_mem _ (igX6 w9 hw9)
  have fl18 := hts (.fieldLink RX6 18 "HalfScales$Thing" "light" "[I") (List.mem_cons_of_mem _ (hs_inG 1 40 rfl rfl))
  have fl55 := hts (.fieldLink RX6 55 "HalfScales$Thing" "pairCount" "I") (List.mem_cons_of_mem _ (hs_inG 1 73 rfl rfl))
  have fl21 := hts (.fieldLink RX6 21 "HalfScales$Thing" "heavy" "[I") (List.mem_cons_of_mem _ (hs_inG 1 44 rfl rfl))
  subst hsz
  have hD := hD0.self (sz := s.heap.size)
  generalize hAe : va_A [oqT t t_a t_N t_J, oqF0 k t_a t_F, oqF1 k t_a t_F, oqF2 k t_a t_F, oqF3 k t_a t_F, oqF4 k t_a t_F, oqF5 k t_a t_F, oqF6 k t_a t_F] s.heap.size = A at hD ⊢
  have hA : ∀ q : Nat, s.heap.size ≤ q → A q := fun q h => by rw [← hAe]; exact Or.inr h
  have hS : va_S A s.heap s.heap [] := va_S.rf
  have hl := lv_entry ([.ref t, .int a, .int b]) (n := 3) (Nat.le_of_ble_eq_true rfl)
  rw [lg_entry_eq]
  generalize (lg_sl ([.ref t, .int a, .int b]) ++ List.replicate (3 - (lg_sl ([.ref t, .int a, .int b])).length) Slot.unset).toArray = ls at hl ⊢
  have hl : lv_has ls 3 [(0, .ref t), (1, .int a), (2, .int b)] := hl
  have hP : va_P D vwCl [oqT t t_a t_N t_J, oqF0 k t_a t_F, oqF1 k t_a t_F, oqF2 k t_a t_F, oqF3 k t_a t_F, oqF4 k t_a t_F, oqF5 k t_a t_F, oqF6 k t_a t_F] s.heap := hP
  refine lv_aload_n hx hb dX6_addPair_0 rfl (lv_at hl 0 rfl) ?_
  refine va_get (D := D) (ci := 5) (v := .ref (t_a 2)) (C := RX6) (T := TX6) (N := 15) hx hb hts hiX6 hown hK hP 0 rfl rfl 2 (Nat.le_of_ble_eq_true rfl) fl18 (fun _ h9 => h9) rfl dX6_addPair_1 ?_
  refine lv_aload_n hx hb dX6_addPair_4 rfl (lv_at hl 0 rfl) ?_
  refine va_get (D := D) (ci := 5) (v := .int (nI (t_N 3))) (C := RX6) (T := TX6) (N := 15) hx hb hts hiX6 hown hK hP 0 rfl rfl 13 (Nat.le_of_ble_eq_true rfl) fl55 (fun _ h9 => h9) rfl dX6_addPair_5 ?_
  refine lv_iload_n hx hb dX6_addPair_8 rfl (lv_at hl 1 rfl) ?_
  refine va_iast hx hb hK hP hD hS 3 0 rfl rfl (vp_in_nI (show (t_N 3) < 8 by omega) (by decide)) dX6_addPair_9 (fun H locs hP hD hS => ?_)
  have hP : va_P D vwCl [oqT t t_a t_N t_J, oqF0 k t_a t_F, oqF1 k t_a t_F, oqI k (t_a 2) 8 (upd (t_F 2) ((nI (t_N 3)).toNatClampNeg) a), oqF3 k t_a t_F, oqF4 k t_a t_F, oqF5 k t_a t_F, oqF6 k t_a t_F] H := hP
  have hD : va_D A [oqT t t_a t_N t_J, oqF0 k t_a t_F, oqF1 k t_a t_F, oqI k (t_a 2) 8 (upd (t_F 2) ((nI (t_N 3)).toNatClampNeg) a), oqF3 k t_a t_F, oqF4 k t_a t_F, oqF5 k t_a t_F, oqF6 k t_a t_F] := hD
  refine lv_aload_n hx hb dX6_addPair_10 rfl (lv_at hl 0 rfl) ?_
  refine va_get (D := D) (ci := 5) (v := .ref (t_a 3)) (C := RX6) (T := TX6) (N := 15) hx hb hts hiX6 hown hK hP 0 rfl rfl 3 (Nat.le_of_ble_eq_true rfl) fl21 (fun _ h9 => h9) rfl dX6_addPair_11 ?_
  refine lv_aload_n hx hb dX6_addPair_14 rfl (lv_at hl 0 rfl) ?_
  refine va_get (D := D) (ci := 5) (v := .int (nI (t_N 3))) (C := RX6) (T := TX6) (N := 15) hx hb hts hiX6 hown hK hP 0 rfl rfl 13 (Nat.le_of_ble_eq_true rfl) fl55 (fun _ h9 => h9) rfl dX6_addPair_15 ?_
  refine lv_iload_n hx hb dX6_addPair_18 rfl (lv_at hl 2 rfl) ?_
  refine va_iast hx hb hK hP hD hS 4 0 rfl rfl (vp_in_nI (show (t_N 3) < 8 by omega) (by decide)) dX6_addPair_19 (fun H locs hP hD hS => ?_)
  have hP : va_P D vwCl [_, _, _, _, oqI k (t_a 3) 8 (upd (t_F 3) ((nI (t_N 3)).toNatClampNeg) b), _, _, _] H := hP
  have hD : va_D A [_, _, _, _, oqI k (t_a 3) 8 (upd (t_F 3) ((nI (t_N 3)).toNatClampNeg) b), _, _, _] := hD
  refine lv_aload_n hx hb dX6_addPair_20 rfl (lv_at hl 0 rfl) ?_
  refine lv_dup hx hb dX6_addPair_21 rfl ?_
  refine va_get (D := D) (ci := 5) (v := .int (nI (t_N 3))) (C := RX6) (T := TX6) (N := 15) hx hb hts hiX6 hown hK hP 0 rfl rfl 13 (Nat.le_of_ble_eq_true rfl) fl55 (fun _ h9 => h9) rfl dX6_addPair_22 ?_
  refine lv_iconst (v := 1) hx hb dX6_addPair_25 hki_1 ?_
  refine lv_iadd hx hb dX6_addPair_26 ?_
  refine hs_topi (nI ((t_N 3) + 1)) (nI_add ((t_N 3)) (1)) ?_
  refine va_put (D := D) (ci := 5) (v := .int (nI ((t_N 3) + 1))) (ty := .int) (C := RX6) (T := TX6) (N := 15) hx hb hts hiX6 tyX6 tyX6_ok nmX6 hown hK hP hD hS 0 rfl rfl 13 (Nat.le_of_ble_eq_true rfl) fl55 (fun _ h9 => h9) rfl (by decide +kernel) rfl rfl (Nat.le_of_ble_eq_true rfl) dX6_addPair_27 (fun H locs hP hD hS => ?_)
  have hP : va_P D vwCl [oq5 t (t_a 0) (t_a 1) (t_a 2) (t_a 3) (t_a 4) (t_a 5) (t_a 6) (nI (t_N 0)) (nI (t_N 1)) (t_J 0) (t_J 1) (t_J 2) (nI (t_N 2)) (nI ((t_N 3) + 1)) (nI (t_N 4)), _, _, _, _, _, _, _] H := hP
  have hD : va_D A [oq5 t (t_a 0) (t_a 1) (t_a 2) (t_a 3) (t_a 4) (t_a 5) (t_a 6) (nI (t_N 0)) (nI (t_N 1)) (t_J 0) (t_J 1) (t_J 2) (nI (t_N 2)) (nI ((t_N 3) + 1)) (nI (t_N 4)), _, _, _, _, _, _, _] := hD
  exact hs_vret hx hb hr hlocks hK hP hD hS () [0, 1, 2, 3, 4, 5, 6, 7] rfl (hs_upnd rfl) dX6_addPair_30 (trivial)

set_option maxHeartbeats 4000000 in
set_option maxRecDepth 100000 in
theorem g_addSeen (l : Launch) (D : va_G) (k : Nat → ClassId) (sz : Nat) (t : Nat) (t_a : Nat → Nat) (t_N : Nat → Nat) (t_J : Nat → Int32) (t_F : Nat → Nat → Int32) (a : Int32) (b : Int32) (cc0 : Int32) (h6 : t_N 4 < 6) : MV l yX6_addSeen wsX6_addSeen ({ frames := 0, cells := 0, slots := 0, locals := 0 }) D k [.ref t, .int a, .int b, .int cc0] [oqT t t_a t_N t_J, oqF0 k t_a t_F, oqF1 k t_a t_F, oqF2 k t_a t_F, oqF3 k t_a t_F, oqF4 k t_a t_F, oqF5 k t_a t_F, oqF6 k t_a t_F] sz (fun (u : Unit) => True) (fun (u : Unit) => [oq5 t (t_a 0) (t_a 1) (t_a 2) (t_a 3) (t_a 4) (t_a 5) (t_a 6) (nI (t_N 0)) (nI (t_N 1)) (t_J 0) (t_J 1) (t_J 2) (nI (t_N 2)) (nI (t_N 3)) (nI ((t_N 4) + 1)), oqF0 k t_a t_F, oqF1 k t_a t_F, oqF2 k t_a t_F, oqF3 k t_a t_F, oqI k (t_a 4) 6 (upd (t_F 4) ((nI (t_N 4)).toNatClampNeg) a), oqI k (t_a 5) 6 (upd (t_F 5) ((nI (t_N 4)).toNatClampNeg) b), oqI k (t_a 6) 6 (upd (t_F 6) ((nI (t_N 4)).toNatClampNeg) cc0)]) := by
  refine Met.ofW (cc := cX6_addSeen) (maxL := 4) (ret := none) hpn_X6 rfl ?_
  intro p e s m args below meth c s₁ B hml hv
  obtain ⟨rfl, hsz, hP, hK, hD0, hN⟩ := hv
  have hx := B.exec
  have hb := B.bytes
  have hr := B.returns
  have hlocks := B.notSynchronized
  have hts := atoms_spec (ws := wsX6_addSeen) B.pre
  have hown := findClass_of_methodNamed B.named
  have hown : s.vm.findClass RX6 = some m.cls := hown
  have hiX6 : ∀ w ∈ u_ws RX6 TX6 15, w ∈ wsX6_addSeen := fun w9 hw9 => List.mem_cons_of_mem _ (igX6 w9 hw9)
  have fl24 := hts (.fieldLink RX6 24 "HalfScales$Thing" "seenBy" "[I") (List.mem_cons_of_mem _ (hs_inG 1 48 rfl rfl))
  have fl58 := hts (.fieldLink RX6 58 "HalfScales$Thing" "seenCount" "I") (List.mem_cons_of_mem _ (hs_inG 1 76 rfl rfl))
  have fl27 := hts (.fieldLink RX6 27 "HalfScales$Thing" "seenCut" "[I") (List.mem_cons_of_mem _ (hs_inG 1 49 rfl rfl))
  have fl30 := hts (.fieldLink RX6 30 "HalfScales$Thing" "seenFound" "[I") (List.mem_cons_of_mem _ (hs_inG 1 50 rfl rfl))
  subst hsz
  have hD := hD0.self (sz := s.heap.size)
  generalize hAe : va_A [oqT t t_a t_N t_J, oqF0 k t_a t_F, oqF1 k t_a t_F, oqF2 k t_a t_F, oqF3 k t_a t_F, oqF4 k t_a t_F, oqF5 k t_a t_F, oqF6 k t_a t_F] s.heap.size = A at hD ⊢
  have hA : ∀ q : Nat, s.heap.size ≤ q → A q := fun q h => by rw [← hAe]; exact Or.inr h
  have hS : va_S A s.heap s.heap [] := va_S.rf
  have hl := lv_entry ([.ref t, .int a, .int b, .int cc0]) (n := 4) (Nat.le_of_ble_eq_true rfl)
  rw [lg_entry_eq]
  generalize (lg_sl ([.ref t, .int a, .int b, .int cc0]) ++ List.replicate (4 - (lg_sl ([.ref t, .int a, .int b, .int cc0])).length) Slot.unset).toArray = ls at hl ⊢
  have hl : lv_has ls 4 [(0, .ref t), (1, .int a), (2, .int b), (3, .int cc0)] := hl
  have hP : va_P D vwCl [oqT t t_a t_N t_J, oqF0 k t_a t_F, oqF1 k t_a t_F, oqF2 k t_a t_F, oqF3 k t_a t_F, oqF4 k t_a t_F, oqF5 k t_a t_F, oqF6 k t_a t_F] s.heap := hP
  refine lv_aload_n hx hb dX6_addSeen_0 rfl (lv_at hl 0 rfl) ?_
  refine va_get (D := D) (ci := 5) (v := .ref (t_a 4)) (C := RX6) (T := TX6) (N := 15) hx hb hts hiX6 hown hK hP 0 rfl rfl 4 (Nat.le_of_ble_eq_true rfl) fl24 (fun _ h9 => h9) rfl dX6_addSeen_1 ?_
  refine lv_aload_n hx hb dX6_addSeen_4 rfl (lv_at hl 0 rfl) ?_
  refine va_get (D := D) (ci := 5) (v := .int (nI (t_N 4))) (C := RX6) (T := TX6) (N := 15) hx hb hts hiX6 hown hK hP 0 rfl rfl 14 (Nat.le_of_ble_eq_true rfl) fl58 (fun _ h9 => h9) rfl dX6_addSeen_5 ?_
  refine lv_iload_n hx hb dX6_addSeen_8 rfl (lv_at hl 1 rfl) ?_
  refine va_iast hx hb hK hP hD hS 5 0 rfl rfl (vp_in_nI (show (t_N 4) < 6 by omega) (by decide)) dX6_addSeen_9 (fun H locs hP hD hS => ?_)
  have hP : va_P D vwCl [oqT t t_a t_N t_J, oqF0 k t_a t_F, oqF1 k t_a t_F, oqF2 k t_a t_F, oqF3 k t_a t_F, oqI k (t_a 4) 6 (upd (t_F 4) ((nI (t_N 4)).toNatClampNeg) a), oqF5 k t_a t_F, oqF6 k t_a t_F] H := hP
  have hD : va_D A [oqT t t_a t_N t_J, oqF0 k t_a t_F, oqF1 k t_a t_F, oqF2 k t_a t_F, oqF3 k t_a t_F, oqI k (t_a 4) 6 (upd (t_F 4) ((nI (t_N 4)).toNatClampNeg) a), oqF5 k t_a t_F, oqF6 k t_a t_F] := hD
  refine lv_aload_n hx hb dX6_addSeen_10 rfl (lv_at hl 0 rfl) ?_
  refine va_get (D := D) (ci := 5) (v := .ref (t_a 5)) (C := RX6) (T := TX6) (N := 15) hx hb hts hiX6 hown hK hP 0 rfl rfl 5 (Nat.le_of_ble_eq_true rfl) fl27 (fun _ h9 => h9) rfl dX6_addSeen_11 ?_
  refine lv_aload_n hx hb dX6_addSeen_14 rfl (lv_at hl 0 rfl) ?_
  refine va_get (D := D) (ci := 5) (v := .int (nI (t_N 4))) (C := RX6) (T := TX6) (N := 15) hx hb hts hiX6 hown hK hP 0 rfl rfl 14 (Nat.le_of_ble_eq_true rfl) fl58 (fun _ h9 => h9) rfl dX6_addSeen_15 ?_
  refine lv_iload_n hx hb dX6_addSeen_18 rfl (lv_at hl 2 rfl) ?_
  refine va_iast hx hb hK hP hD hS 6 0 rfl rfl (vp_in_nI (show (t_N 4) < 6 by omega) (by decide)) dX6_addSeen_19 (fun H locs hP hD hS => ?_)
  have hP : va_P D vwCl [_, _, _, _, _, _, oqI k (t_a 5) 6 (upd (t_F 5) ((nI (t_N 4)).toNatClampNeg) b), _] H := hP
  have hD : va_D A [_, _, _, _, _, _, oqI k (t_a 5) 6 (upd (t_F 5) ((nI (t_N 4)).toNatClampNeg) b), _] := hD
  refine lv_aload_n hx hb dX6_addSeen_20 rfl (lv_at hl 0 rfl) ?_
  refine va_get (D := D) (ci := 5) (v := .ref (t_a 6)) (C := RX6) (T := TX6) (N := 15) hx hb hts hiX6 hown hK hP 0 rfl rfl 6 (Nat.le_of_ble_eq_true rfl) fl30 (fun _ h9 => h9) rfl dX6_addSeen_21 ?_
  refine lv_aload_n hx hb dX6_addSeen_24 rfl (lv_at hl 0 rfl) ?_
  refine va_get (D := D) (ci := 5) (v := .int (nI (t_N 4))) (C := RX6) (T := TX6) (N := 15) hx hb hts hiX6 hown hK hP 0 rfl rfl 14 (Nat.le_of_ble_eq_true rfl) fl58 (fun _ h9 => h9) rfl dX6_addSeen_25 ?_
  refine lv_iload_n hx hb dX6_addSeen_28 rfl (lv_at hl 3 rfl) ?_
  refine va_iast hx hb hK hP hD hS 7 0 rfl rfl (vp_in_nI (show (t_N 4) < 6 by omega) (by decide)) dX6_addSeen_29 (fun H locs hP hD hS => ?_)
  have hP : va_P D vwCl [_, _, _, _, _, _, _, oqI k (t_a 6) 6 (upd (t_F 6) ((nI (t_N 4)).toNatClampNeg) cc0)] H := hP
  have hD : va_D A [_, _, _, _, _, _, _, oqI k (t_a 6) 6 (upd (t_F 6) ((nI (t_N 4)).toNatClampNeg) cc0)] := hD
  refine lv_aload_n hx hb dX6_addSeen_30 rfl (lv_at hl 0 rfl) ?_
  refine lv_dup hx hb dX6_addSeen_31 rfl ?_
  refine va_get (D := D) (ci := 5) (v := .int (nI (t_N 4))) (C := RX6) (T := TX6) (N := 15) hx hb hts hiX6 hown hK hP 0 rfl rfl 14 (Nat.le_of_ble_eq_true rfl) fl58 (fun _ h9 => h9) rfl dX6_addSeen_32 ?_
  refine lv_iconst (v := 1) hx hb dX6_addSeen_35 hki_1 ?_
  refine lv_iadd hx hb dX6_addSeen_36 ?_
  refine hs_topi (nI ((t_N 4) + 1)) (nI_add ((t_N 4)) (1)) ?_
  refine va_put (D := D) (ci := 5) (v := .int (nI ((t_N 4) + 1))) (ty := .int) (C := RX6) (T := TX6) (N := 15) hx hb hts hiX6 tyX6 tyX6_ok nmX6 hown hK hP hD hS 0 rfl rfl 14 (Nat.le_of_ble_eq_true rfl) fl58 (fun _ h9 => h9) rfl (by decide +kernel) rfl rfl (Nat.le_of_ble_eq_true rfl) dX6_addSeen_37 (fun H locs hP hD hS => ?_)
  have hP : va_P D vwCl [oq5 t (t_a 0) (t_a 1) (t_a 2) (t_a 3) (t_a 4) (t_a 5) (t_a 6) (nI (t_N 0)) (nI (t_N 1)) (t_J 0) (t_J 1) (t_J 2) (nI (t_N 2)) (nI (t_N 3)) (nI ((t_N 4) + 1)), _, _, _, _, _, _, _] H := hP
  have hD : va_D A [oq5 t (t_a 0) (t_a 1) (t_a 2) (t_a 3) (t_a 4) (t_a 5) (t_a 6) (nI (t_N 0)) (nI (t_N 1)) (t_J 0) (t_J 1) (t_J 2) (nI (t_N 2)) (nI (t_N 3)) (nI ((t_N 4) + 1)), _, _, _, _, _, _, _] := hD
  exact hs_vret hx hb hr hlocks hK hP hD hS () [0, 1, 2, 3, 4, 5, 6, 7] rfl (hs_upnd rfl) dX6_addSeen_40 (trivial)

set_option maxHeartbeats 4000000 in
set_option maxRecDepth 100000 in
theorem g_begin (l : Launch) (D : va_G) (k : Nat → ClassId) (sz : Nat) (t : Nat) (t_a : Nat → Nat) (t_N : Nat → Nat) (t_J : Nat → Int32) (t_F : Nat → Nat → Int32)  : MV l yX6_begin wsX6_begin ({ frames := 0, cells := 0, slots := 0, locals := 0 }) D k [.ref t] [oqT t t_a t_N t_J, oqF0 k t_a t_F, oqF1 k t_a t_F, oqF2 k t_a t_F, oqF3 k t_a t_F, oqF4 k t_a t_F, oqF5 k t_a t_F, oqF6 k t_a t_F] sz (fun (u : Unit) => True) (fun (u : Unit) => [oq5 t (t_a 0) (t_a 1) (t_a 2) (t_a 3) (t_a 4) (t_a 5) (t_a 6) 2 0 0 0 0 2 0 0, oqI k (t_a 0) 8 (upd (upd (t_F 0) 0 1) 1 1), oqF1 k t_a t_F, oqF2 k t_a t_F, oqF3 k t_a t_F, oqF4 k t_a t_F, oqF5 k t_a t_F, oqF6 k t_a t_F]) := by
  refine Met.ofW (cc := cX6_begin) (maxL := 1) (ret := none) hpn_X6 rfl ?_
  intro p e s m args below meth c s₁ B hml hv
  obtain ⟨rfl, hsz, hP, hK, hD0, hN⟩ := hv
  have hx := B.exec
  have hb := B.bytes
  have hr := B.returns
  have hlocks := B.notSynchronized
  have hts := atoms_spec (ws := wsX6_begin) B.pre
  have hown := findClass_of_methodNamed B.named
  have hown : s.vm.findClass RX6 = some m.cls := hown
  have hiX6 : ∀ w ∈ u_ws RX6 TX6 15, w ∈ wsX6_begin := fun w9 hw9 => List.mem_cons_of_mem _ (igX6 w9 hw9)
  have fl9 := hts (.fieldLink RX6 9 "HalfScales$Thing" "weights" "[I") (List.mem_cons_of_mem _ (hs_inG 1 35 rfl rfl))
  have fl36 := hts (.fieldLink RX6 36 "HalfScales$Thing" "cellCount" "I") (List.mem_cons_of_mem _ (hs_inG 1 51 rfl rfl))
  have fl40 := hts (.fieldLink RX6 40 "HalfScales$Thing" "peopleCount" "I") (List.mem_cons_of_mem _ (hs_inG 1 55 rfl rfl))
  have fl43 := hts (.fieldLink RX6 43 "HalfScales$Thing" "slip" "I") (List.mem_cons_of_mem _ (hs_inG 1 59 rfl rfl))
  have fl46 := hts (.fieldLink RX6 46 "HalfScales$Thing" "fine" "I") (List.mem_cons_of_mem _ (hs_inG 1 63 rfl rfl))
  have fl49 := hts (.fieldLink RX6 49 "HalfScales$Thing" "appealCount" "I") (List.mem_cons_of_mem _ (hs_inG 1 66 rfl rfl))
  have fl52 := hts (.fieldLink RX6 52 "HalfScales$Thing" "halfCount" "I") (List.mem_cons_of_mem _ (hs_inG 1 69 rfl rfl))
  have fl55 := hts (.fieldLink RX6 55 "HalfScales$Thing" "pairCount" "I") (List.mem_cons_of_mem _ (hs_inG 1 73 rfl rfl))
  have fl58 := hts (.fieldLink RX6 58 "HalfScales$Thing" "seenCount" "I") (List.mem_cons_of_mem _ (hs_inG 1 76 rfl rfl))
  subst hsz
  have hD := hD0.self (sz := s.heap.size)
  generalize hAe : va_A [oqT t t_a t_N t_J, oqF0 k t_a t_F, oqF1 k t_a t_F, oqF2 k t_a t_F, oqF3 k t_a t_F, oqF4 k t_a t_F, oqF5 k t_a t_F, oqF6 k t_a t_F] s.heap.size = A at hD ⊢
  have hA : ∀ q : Nat, s.heap.size ≤ q → A q := fun q h => by rw [← hAe]; exact Or.inr h
  have hS : va_S A s.heap s.heap [] := va_S.rf
  have hl := lv_entry ([.ref t]) (n := 1) (Nat.le_of_ble_eq_true rfl)
  rw [lg_entry_eq]
  generalize (lg_sl ([.ref t]) ++ List.replicate (1 - (lg_sl ([.ref t])).length) Slot.unset).toArray = ls at hl ⊢
  have hl : lv_has ls 1 [(0, .ref t)] := hl
  have hP : va_P D vwCl [oqT t t_a t_N t_J, oqF0 k t_a t_F, oqF1 k t_a t_F, oqF2 k t_a t_F, oqF3 k t_a t_F, oqF4 k t_a t_F, oqF5 k t_a t_F, oqF6 k t_a t_F] s.heap := hP
  refine lv_aload_n hx hb dX6_begin_0 rfl (lv_at hl 0 rfl) ?_
  refine va_get (D := D) (ci := 5) (v := .ref (t_a 0)) (C := RX6) (T := TX6) (N := 15) hx hb hts hiX6 hown hK hP 0 rfl rfl 0 (Nat.le_of_ble_eq_true rfl) fl9 (fun _ h9 => h9) rfl dX6_begin_1 ?_
  refine lv_iconst (v := 0) hx hb dX6_begin_4 hki_0 ?_
  refine lv_iconst (v := 1) hx hb dX6_begin_5 hki_1 ?_
  refine va_iast hx hb hK hP hD hS 1 0 rfl rfl (hs_in (by decide)) dX6_begin_6 (fun H locs hP hD hS => ?_)
  have hP : va_P D vwCl [oqT t t_a t_N t_J, oqI k (t_a 0) 8 (upd (t_F 0) 0 1), oqF1 k t_a t_F, oqF2 k t_a t_F, oqF3 k t_a t_F, oqF4 k t_a t_F, oqF5 k t_a t_F, oqF6 k t_a t_F] H := hP
  have hD : va_D A [oqT t t_a t_N t_J, oqI k (t_a 0) 8 (upd (t_F 0) 0 1), oqF1 k t_a t_F, oqF2 k t_a t_F, oqF3 k t_a t_F, oqF4 k t_a t_F, oqF5 k t_a t_F, oqF6 k t_a t_F] := hD
  refine lv_aload_n hx hb dX6_begin_7 rfl (lv_at hl 0 rfl) ?_
  refine va_get (D := D) (ci := 5) (v := .ref (t_a 0)) (C := RX6) (T := TX6) (N := 15) hx hb hts hiX6 hown hK hP 0 rfl rfl 0 (Nat.le_of_ble_eq_true rfl) fl9 (fun _ h9 => h9) rfl dX6_begin_8 ?_
  refine lv_iconst (v := 1) hx hb dX6_begin_11 hki_1 ?_
  refine lv_iconst (v := 1) hx hb dX6_begin_12 hki_1 ?_
  refine va_iast hx hb hK hP hD hS 1 0 rfl rfl (hs_in (by decide)) dX6_begin_13 (fun H locs hP hD hS => ?_)
  have hP : va_P D vwCl [_, oqI k (t_a 0) 8 (upd (upd (t_F 0) 0 1) 1 1), _, _, _, _, _, _] H := hP
  have hD : va_D A [_, oqI k (t_a 0) 8 (upd (upd (t_F 0) 0 1) 1 1), _, _, _, _, _, _] := hD
  refine lv_aload_n hx hb dX6_begin_14 rfl (lv_at hl 0 rfl) ?_
  refine lv_iconst (v := 2) hx hb dX6_begin_15 hki_2 ?_
  refine va_put (D := D) (ci := 5) (v := .int 2) (ty := .int) (C := RX6) (T := TX6) (N := 15) hx hb hts hiX6 tyX6 tyX6_ok nmX6 hown hK hP hD hS 0 rfl rfl 7 (Nat.le_of_ble_eq_true rfl) fl36 (fun _ h9 => h9) rfl (by decide +kernel) rfl rfl (Nat.le_of_ble_eq_true rfl) dX6_begin_16 (fun H locs hP hD hS => ?_)
  have hP : va_P D vwCl [oq5 t (t_a 0) (t_a 1) (t_a 2) (t_a 3) (t_a 4) (t_a 5) (t_a 6) 2 (nI (t_N 1)) (t_J 0) (t_J 1) (t_J 2) (nI (t_N 2)) (nI (t_N 3)) (nI (t_N 4)), _, _, _, _, _, _, _] H := hP
  have hD : va_D A [oq5 t (t_a 0) (t_a 1) (t_a 2) (t_a 3) (t_a 4) (t_a 5) (t_a 6) 2 (nI (t_N 1)) (t_J 0) (t_J 1) (t_J 2) (nI (t_N 2)) (nI (t_N 3)) (nI (t_N 4)), _, _, _, _, _, _, _] := hD
  refine lv_aload_n hx hb dX6_begin_19 rfl (lv_at hl 0 rfl) ?_
  refine lv_iconst (v := 0) hx hb dX6_begin_20 hki_0 ?_
  refine va_put (D := D) (ci := 5) (v := .int 0) (ty := .int) (C := RX6) (T := TX6) (N := 15) hx hb hts hiX6 tyX6 tyX6_ok nmX6 hown hK hP hD hS 0 rfl rfl 8 (Nat.le_of_ble_eq_true rfl) fl40 (fun _ h9 => h9) rfl (by decide +kernel) rfl rfl (Nat.le_of_ble_eq_true rfl) dX6_begin_21 (fun H locs hP hD hS => ?_)
  have hP : va_P D vwCl [oq5 t (t_a 0) (t_a 1) (t_a 2) (t_a 3) (t_a 4) (t_a 5) (t_a 6) 2 0 (t_J 0) (t_J 1) (t_J 2) (nI (t_N 2)) (nI (t_N 3)) (nI (t_N 4)), _, _, _, _, _, _, _] H := hP
  have hD : va_D A [oq5 t (t_a 0) (t_a 1) (t_a 2) (t_a 3) (t_a 4) (t_a 5) (t_a 6) 2 0 (t_J 0) (t_J 1) (t_J 2) (nI (t_N 2)) (nI (t_N 3)) (nI (t_N 4)), _, _, _, _, _, _, _] := hD
  refine lv_aload_n hx hb dX6_begin_24 rfl (lv_at hl 0 rfl) ?_
  refine lv_iconst (v := 0) hx hb dX6_begin_25 hki_0 ?_
  refine va_put (D := D) (ci := 5) (v := .int 0) (ty := .int) (C := RX6) (T := TX6) (N := 15) hx hb hts hiX6 tyX6 tyX6_ok nmX6 hown hK hP hD hS 0 rfl rfl 9 (Nat.le_of_ble_eq_true rfl) fl43 (fun _ h9 => h9) rfl (by decide +kernel) rfl rfl (Nat.le_of_ble_eq_true rfl) dX6_begin_26 (fun H locs hP hD hS => ?_)
  have hP : va_P D vwCl [oq5 t (t_a 0) (t_a 1) (t_a 2) (t_a 3) (t_a 4) (t_a 5) (t_a 6) 2 0 0 (t_J 1) (t_J 2) (nI (t_N 2)) (nI (t_N 3)) (nI (t_N 4)), _, _, _, _, _, _, _] H := hP
  have hD : va_D A [oq5 t (t_a 0) (t_a 1) (t_a 2) (t_a 3) (t_a 4) (t_a 5) (t_a 6) 2 0 0 (t_J 1) (t_J 2) (nI (t_N 2)) (nI (t_N 3)) (nI (t_N 4)), _, _, _, _, _, _, _] := hD
  refine lv_aload_n hx hb dX6_begin_29 rfl (lv_at hl 0 rfl) ?_
  refine lv_iconst (v := 0) hx hb dX6_begin_30 hki_0 ?_
  refine va_put (D := D) (ci := 5) (v := .int 0) (ty := .int) (C := RX6) (T := TX6) (N := 15) hx hb hts hiX6 tyX6 tyX6_ok nmX6 hown hK hP hD hS 0 rfl rfl 10 (Nat.le_of_ble_eq_true rfl) fl46 (fun _ h9 => h9) rfl (by decide +kernel) rfl rfl (Nat.le_of_ble_eq_true rfl) dX6_begin_31 (fun H locs hP hD hS => ?_)
  have hP : va_P D vwCl [oq5 t (t_a 0) (t_a 1) (t_a 2) (t_a 3) (t_a 4) (t_a 5) (t_a 6) 2 0 0 0 (t_J 2) (nI (t_N 2)) (nI (t_N 3)) (nI (t_N 4)), _, _, _, _, _, _, _] H := hP
  have hD : va_D A [oq5 t (t_a 0) (t_a 1) (t_a 2) (t_a 3) (t_a 4) (t_a 5) (t_a 6) 2 0 0 0 (t_J 2) (nI (t_N 2)) (nI (t_N 3)) (nI (t_N 4)), _, _, _, _, _, _, _] := hD
  refine lv_aload_n hx hb dX6_begin_34 rfl (lv_at hl 0 rfl) ?_
  refine lv_iconst (v := 0) hx hb dX6_begin_35 hki_0 ?_
  refine va_put (D := D) (ci := 5) (v := .int 0) (ty := .int) (C := RX6) (T := TX6) (N := 15) hx hb hts hiX6 tyX6 tyX6_ok nmX6 hown hK hP hD hS 0 rfl rfl 11 (Nat.le_of_ble_eq_true rfl) fl49 (fun _ h9 => h9) rfl (by decide +kernel) rfl rfl (Nat.le_of_ble_eq_true rfl) dX6_begin_36 (fun H locs hP hD hS => ?_)
  have hP : va_P D vwCl [oq5 t (t_a 0) (t_a 1) (t_a 2) (t_a 3) (t_a 4) (t_a 5) (t_a 6) 2 0 0 0 0 (nI (t_N 2)) (nI (t_N 3)) (nI (t_N 4)), _, _, _, _, _, _, _] H := hP
  have hD : va_D A [oq5 t (t_a 0) (t_a 1) (t_a 2) (t_a 3) (t_a 4) (t_a 5) (t_a 6) 2 0 0 0 0 (nI (t_N 2)) (nI (t_N 3)) (nI (t_N 4)), _, _, _, _, _, _, _] := hD
  refine lv_aload_n hx hb dX6_begin_39 rfl (lv_at hl 0 rfl) ?_
  refine lv_iconst (v := 2) hx hb dX6_begin_40 hki_2 ?_
  refine va_put (D := D) (ci := 5) (v := .int 2) (ty := .int) (C := RX6) (T := TX6) (N := 15) hx hb hts hiX6 tyX6 tyX6_ok nmX6 hown hK hP hD hS 0 rfl rfl 12 (Nat.le_of_ble_eq_true rfl) fl52 (fun _ h9 => h9) rfl (by decide +kernel) rfl rfl (Nat.le_of_ble_eq_true rfl) dX6_begin_41 (fun H locs hP hD hS => ?_)
  have hP : va_P D vwCl [oq5 t (t_a 0) (t_a 1) (t_a 2) (t_a 3) (t_a 4) (t_a 5) (t_a 6) 2 0 0 0 0 2 (nI (t_N 3)) (nI (t_N 4)), _, _, _, _, _, _, _] H := hP
  have hD : va_D A [oq5 t (t_a 0) (t_a 1) (t_a 2) (t_a 3) (t_a 4) (t_a 5) (t_a 6) 2 0 0 0 0 2 (nI (t_N 3)) (nI (t_N 4)), _, _, _, _, _, _, _] := hD
  refine lv_aload_n hx hb dX6_begin_44 rfl (lv_at hl 0 rfl) ?_
  refine lv_iconst (v := 0) hx hb dX6_begin_45 hki_0 ?_
  refine va_put (D := D) (ci := 5) (v := .int 0) (ty := .int) (C := RX6) (T := TX6) (N := 15) hx hb hts hiX6 tyX6 tyX6_ok nmX6 hown hK hP hD hS 0 rfl rfl 13 (Nat.le_of_ble_eq_true rfl) fl55 (fun _ h9 => h9) rfl (by decide +kernel) rfl rfl (Nat.le_of_ble_eq_true rfl) dX6_begin_46 (fun H locs hP hD hS => ?_)
  have hP : va_P D vwCl [oq5 t (t_a 0) (t_a 1) (t_a 2) (t_a 3) (t_a 4) (t_a 5) (t_a 6) 2 0 0 0 0 2 0 (nI (t_N 4)), _, _, _, _, _, _, _] H := hP
  have hD : va_D A [oq5 t (t_a 0) (t_a 1) (t_a 2) (t_a 3) (t_a 4) (t_a 5) (t_a 6) 2 0 0 0 0 2 0 (nI (t_N 4)), _, _, _, _, _, _, _] := hD
  refine lv_aload_n hx hb dX6_begin_49 rfl (lv_at hl 0 rfl) ?_
  refine lv_iconst (v := 0) hx hb dX6_begin_50 hki_0 ?_
  refine va_put (D := D) (ci := 5) (v := .int 0) (ty := .int) (C := RX6) (T := TX6) (N := 15) hx hb hts hiX6 tyX6 tyX6_ok nmX6 hown hK hP hD hS 0 rfl rfl 14 (Nat.le_of_ble_eq_true rfl) fl58 (fun _ h9 => h9) rfl (by decide +kernel) rfl rfl (Nat.le_of_ble_eq_true rfl) dX6_begin_51 (fun H locs hP hD hS => ?_)
  have hP : va_P D vwCl [oq5 t (t_a 0) (t_a 1) (t_a 2) (t_a 3) (t_a 4) (t_a 5) (t_a 6) 2 0 0 0 0 2 0 0, _, _, _, _, _, _, _] H := hP
  have hD : va_D A [oq5 t (t_a 0) (t_a 1) (t_a 2) (t_a 3) (t_a 4) (t_a 5) (t_a 6) 2 0 0 0 0 2 0 0, _, _, _, _, _, _, _] := hD
  exact hs_vret hx hb hr hlocks hK hP hD hS () [0, 1, 2, 3, 4, 5, 6, 7] rfl (hs_upnd rfl) dX6_begin_54 (trivial)

set_option maxHeartbeats 4000000 in
set_option maxRecDepth 100000 in
theorem g_copyFrom (l : Launch) (D : va_G) (k : Nat → ClassId) (sz : Nat) (t : Nat) (t_a : Nat → Nat) (t_N : Nat → Nat) (t_J : Nat → Int32) (t_F : Nat → Nat → Int32) (o : Nat) (o_a : Nat → Nat) (o_N : Nat → Nat) (o_J : Nat → Int32) (o_F : Nat → Nat → Int32)  : MV l yX6_copyFrom wsX6_copyFrom ({ frames := 1, cells := 0, slots := 0, locals := 60 }) D k [.ref t, .ref o] [oqT t t_a t_N t_J, oqF0 k t_a t_F, oqF1 k t_a t_F, oqF2 k t_a t_F, oqF3 k t_a t_F, oqF4 k t_a t_F, oqF5 k t_a t_F, oqF6 k t_a t_F, oqT o o_a o_N o_J, oqF0 k o_a o_F, oqF1 k o_a o_F, oqF2 k o_a o_F, oqF3 k o_a o_F, oqF4 k o_a o_F, oqF5 k o_a o_F, oqF6 k o_a o_F] sz (fun (u : Nat → Nat → Int32) => ∀ q i, i < hs7 q → u q i = o_F q i) (fun (u : Nat → Nat → Int32) => [oqT t t_a o_N o_J, oqF0 k t_a u, oqF1 k t_a u, oqF2 k t_a u, oqF3 k t_a u, oqF4 k t_a u, oqF5 k t_a u, oqF6 k t_a u, oqT o o_a o_N o_J, oqF0 k o_a o_F, oqF1 k o_a o_F, oqF2 k o_a o_F, oqF3 k o_a o_F, oqF4 k o_a o_F, oqF5 k o_a o_F, oqF6 k o_a o_F]) := by
  refine Met.ofW (cc := cX6_copyFrom) (maxL := 2) (ret := none) hpn_X6 rfl ?_
  intro p e s m args below meth c s₁ B hml hv
  obtain ⟨rfl, hsz, hP, hK, hD0, hN⟩ := hv
  have hx := B.exec
  have hb := B.bytes
  have hr := B.returns
  have hlocks := B.notSynchronized
  have hts := atoms_spec (ws := wsX6_copyFrom) B.pre
  have hown := findClass_of_methodNamed B.named
  have hown : s.vm.findClass RX6 = some m.cls := hown
  have hiX6 : ∀ w ∈ u_ws RX6 TX6 15, w ∈ wsX6_copyFrom := fun w9 hw9 => List.mem_cons_of_mem _ (igX6 w9 hw9)
  have fl9 := hts (.fieldLink RX6 9 "HalfScales$Thing" "weights" "[I") (List.mem_cons_of_mem _ (hs_inG 1 35 rfl rfl))
  have fl15 := hts (.fieldLink RX6 15 "HalfScales$Thing" "kindOf" "[I") (List.mem_cons_of_mem _ (hs_inG 1 38 rfl rfl))
  have fl18 := hts (.fieldLink RX6 18 "HalfScales$Thing" "light" "[I") (List.mem_cons_of_mem _ (hs_inG 1 40 rfl rfl))
  have fl21 := hts (.fieldLink RX6 21 "HalfScales$Thing" "heavy" "[I") (List.mem_cons_of_mem _ (hs_inG 1 44 rfl rfl))
  have fl24 := hts (.fieldLink RX6 24 "HalfScales$Thing" "seenBy" "[I") (List.mem_cons_of_mem _ (hs_inG 1 48 rfl rfl))
  have fl27 := hts (.fieldLink RX6 27 "HalfScales$Thing" "seenCut" "[I") (List.mem_cons_of_mem _ (hs_inG 1 49 rfl rfl))
  have fl30 := hts (.fieldLink RX6 30 "HalfScales$Thing" "seenFound" "[I") (List.mem_cons_of_mem _ (hs_inG 1 50 rfl rfl))
  have fl36 := hts (.fieldLink RX6 36 "HalfScales$Thing" "cellCount" "I") (List.mem_cons_of_mem _ (hs_inG 1 51 rfl rfl))
  have fl40 := hts (.fieldLink RX6 40 "HalfScales$Thing" "peopleCount" "I") (List.mem_cons_of_mem _ (hs_inG 1 55 rfl rfl))
  have fl43 := hts (.fieldLink RX6 43 "HalfScales$Thing" "slip" "I") (List.mem_cons_of_mem _ (hs_inG 1 59 rfl rfl))
  have fl46 := hts (.fieldLink RX6 46 "HalfScales$Thing" "fine" "I") (List.mem_cons_of_mem _ (hs_inG 1 63 rfl rfl))
  have fl49 := hts (.fieldLink RX6 49 "HalfScales$Thing" "appealCount" "I") (List.mem_cons_of_mem _ (hs_inG 1 66 rfl rfl))
  have fl52 := hts (.fieldLink RX6 52 "HalfScales$Thing" "halfCount" "I") (List.mem_cons_of_mem _ (hs_inG 1 69 rfl rfl))
  have fl55 := hts (.fieldLink RX6 55 "HalfScales$Thing" "pairCount" "I") (List.mem_cons_of_mem _ (hs_inG 1 73 rfl rfl))
  have fl58 := hts (.fieldLink RX6 58 "HalfScales$Thing" "seenCount" "I") (List.mem_cons_of_mem _ (hs_inG 1 76 rfl rfl))
  have al61 := hts (.methodLink RX6 61 arraycopyName) (List.mem_cons_of_mem _ (hs_inG 2 180 rfl rfl))
  have an := hts (.native arraycopyName) (List.mem_cons_of_mem _ (hs_inG 2 182 rfl rfl))
  have as := hts (.static arraycopyName) (List.mem_cons_of_mem _ (hs_inG 2 181 rfl rfl))
  have ai := hts (.initialized "java/lang/System") (List.mem_cons_of_mem _ (hs_inG 1 13 rfl rfl))
  subst hsz
  have hD := hD0.self (sz := s.heap.size)
  generalize hAe : va_A [oqT t t_a t_N t_J, oqF0 k t_a t_F, oqF1 k t_a t_F, oqF2 k t_a t_F, oqF3 k t_a t_F, oqF4 k t_a t_F, oqF5 k t_a t_F, oqF6 k t_a t_F, oqT o o_a o_N o_J, oqF0 k o_a o_F, oqF1 k o_a o_F, oqF2 k o_a o_F, oqF3 k o_a o_F, oqF4 k o_a o_F, oqF5 k o_a o_F, oqF6 k o_a o_F] s.heap.size = A at hD ⊢
  have hA : ∀ q : Nat, s.heap.size ≤ q → A q := fun q h => by rw [← hAe]; exact Or.inr h
  have hS : va_S A s.heap s.heap [] := va_S.rf
  have hl := lv_entry ([.ref t, .ref o]) (n := 2) (Nat.le_of_ble_eq_true rfl)
  rw [lg_entry_eq]
  generalize (lg_sl ([.ref t, .ref o]) ++ List.replicate (2 - (lg_sl ([.ref t, .ref o])).length) Slot.unset).toArray = ls at hl ⊢
  have hl : lv_has ls 2 [(0, .ref t), (1, .ref o)] := hl
  have hP : va_P D vwCl [oqT t t_a t_N t_J, oqF0 k t_a t_F, oqF1 k t_a t_F, oqF2 k t_a t_F, oqF3 k t_a t_F, oqF4 k t_a t_F, oqF5 k t_a t_F, oqF6 k t_a t_F, oqT o o_a o_N o_J, oqF0 k o_a o_F, oqF1 k o_a o_F, oqF2 k o_a o_F, oqF3 k o_a o_F, oqF4 k o_a o_F, oqF5 k o_a o_F, oqF6 k o_a o_F] s.heap := hP
  refine lv_aload_n hx hb dX6_copyFrom_0 rfl (lv_at hl 1 rfl) ?_
  refine va_get (D := D) (ci := 5) (v := .ref (o_a 0)) (C := RX6) (T := TX6) (N := 15) hx hb hts hiX6 hown hK hP 8 rfl rfl 0 (Nat.le_of_ble_eq_true rfl) fl9 (fun _ h9 => h9) rfl dX6_copyFrom_1 ?_
  refine lv_iconst (v := 0) hx hb dX6_copyFrom_4 hki_0 ?_
  refine lv_aload_n hx hb dX6_copyFrom_5 rfl (lv_at hl 0 rfl) ?_
  refine va_get (D := D) (ci := 5) (v := .ref (t_a 0)) (C := RX6) (T := TX6) (N := 15) hx hb hts hiX6 hown hK hP 0 rfl rfl 0 (Nat.le_of_ble_eq_true rfl) fl9 (fun _ h9 => h9) rfl dX6_copyFrom_6 ?_
  refine lv_iconst (v := 0) hx hb dX6_copyFrom_9 hki_0 ?_
  refine lv_bipush (v := 8) hx hb dX6_copyFrom_10 hkb_8 ?_
  refine va_copyi (ty := .int) hx hb (hml.trans hl.1.symm) hown al61 an as ai hK hP hD hS 9 1 0 0 rfl rfl rfl rfl rfl (by decide) (by decide) (by decide) (by decide) (by decide) (fun _ _ => rfl) (Nat.le_of_ble_eq_true rfl) (by decide +kernel) dX6_copyFrom_12 (fun H locs hP hD hS => ?_)
  have hP : va_P D vwCl [oqT t t_a t_N t_J, oqI k (t_a 0) 8 (va_cpy (o_F 0) (t_F 0) 0 0 8), oqF1 k t_a t_F, oqF2 k t_a t_F, oqF3 k t_a t_F, oqF4 k t_a t_F, oqF5 k t_a t_F, oqF6 k t_a t_F, oqT o o_a o_N o_J, oqF0 k o_a o_F, oqF1 k o_a o_F, oqF2 k o_a o_F, oqF3 k o_a o_F, oqF4 k o_a o_F, oqF5 k o_a o_F, oqF6 k o_a o_F] H := hP
  have hD : va_D A [oqT t t_a t_N t_J, oqI k (t_a 0) 8 (va_cpy (o_F 0) (t_F 0) 0 0 8), oqF1 k t_a t_F, oqF2 k t_a t_F, oqF3 k t_a t_F, oqF4 k t_a t_F, oqF5 k t_a t_F, oqF6 k t_a t_F, oqT o o_a o_N o_J, oqF0 k o_a o_F, oqF1 k o_a o_F, oqF2 k o_a o_F, oqF3 k o_a o_F, oqF4 k o_a o_F, oqF5 k o_a o_F, oqF6 k o_a o_F] := hD
  refine lv_aload_n hx hb dX6_copyFrom_15 rfl (lv_at hl 1 rfl) ?_
  refine va_get (D := D) (ci := 5) (v := .ref (o_a 1)) (C := RX6) (T := TX6) (N := 15) hx hb hts hiX6 hown hK hP 8 rfl rfl 1 (Nat.le_of_ble_eq_true rfl) fl15 (fun _ h9 => h9) rfl dX6_copyFrom_16 ?_
  refine lv_iconst (v := 0) hx hb dX6_copyFrom_19 hki_0 ?_
  refine lv_aload_n hx hb dX6_copyFrom_20 rfl (lv_at hl 0 rfl) ?_
  refine va_get (D := D) (ci := 5) (v := .ref (t_a 1)) (C := RX6) (T := TX6) (N := 15) hx hb hts hiX6 hown hK hP 0 rfl rfl 1 (Nat.le_of_ble_eq_true rfl) fl15 (fun _ h9 => h9) rfl dX6_copyFrom_21 ?_
  refine lv_iconst (v := 0) hx hb dX6_copyFrom_24 hki_0 ?_
  refine lv_iconst (v := 4) hx hb dX6_copyFrom_25 hki_4 ?_
  refine va_copyi (ty := .int) hx hb (hml.trans hl.1.symm) hown al61 an as ai hK hP hD hS 10 2 0 0 rfl rfl rfl rfl rfl (by decide) (by decide) (by decide) (by decide) (by decide) (fun _ _ => rfl) (Nat.le_of_ble_eq_true rfl) (by decide +kernel) dX6_copyFrom_26 (fun H locs hP hD hS => ?_)
  have hP : va_P D vwCl [_, _, oqI k (t_a 1) 4 (va_cpy (o_F 1) (t_F 1) 0 0 4), _, _, _, _, _, _, _, _, _, _, _, _, _] H := hP
  have hD : va_D A [_, _, oqI k (t_a 1) 4 (va_cpy (o_F 1) (t_F 1) 0 0 4), _, _, _, _, _, _, _, _, _, _, _, _, _] := hD
  refine lv_aload_n hx hb dX6_copyFrom_29 rfl (lv_at hl 1 rfl) ?_
  refine va_get (D := D) (ci := 5) (v := .ref (o_a 2)) (C := RX6) (T := TX6) (N := 15) hx hb hts hiX6 hown hK hP 8 rfl rfl 2 (Nat.le_of_ble_eq_true rfl) fl18 (fun _ h9 => h9) rfl dX6_copyFrom_30 ?_
  refine lv_iconst (v := 0) hx hb dX6_copyFrom_33 hki_0 ?_
  refine lv_aload_n hx hb dX6_copyFrom_34 rfl (lv_at hl 0 rfl) ?_
  refine va_get (D := D) (ci := 5) (v := .ref (t_a 2)) (C := RX6) (T := TX6) (N := 15) hx hb hts hiX6 hown hK hP 0 rfl rfl 2 (Nat.le_of_ble_eq_true rfl) fl18 (fun _ h9 => h9) rfl dX6_copyFrom_35 ?_
  refine lv_iconst (v := 0) hx hb dX6_copyFrom_38 hki_0 ?_
  refine lv_bipush (v := 8) hx hb dX6_copyFrom_39 hkb_8 ?_
  refine va_copyi (ty := .int) hx hb (hml.trans hl.1.symm) hown al61 an as ai hK hP hD hS 11 3 0 0 rfl rfl rfl rfl rfl (by decide) (by decide) (by decide) (by decide) (by decide) (fun _ _ => rfl) (Nat.le_of_ble_eq_true rfl) (by decide +kernel) dX6_copyFrom_41 (fun H locs hP hD hS => ?_)
  have hP : va_P D vwCl [_, _, _, oqI k (t_a 2) 8 (va_cpy (o_F 2) (t_F 2) 0 0 8), _, _, _, _, _, _, _, _, _, _, _, _] H := hP
  have hD : va_D A [_, _, _, oqI k (t_a 2) 8 (va_cpy (o_F 2) (t_F 2) 0 0 8), _, _, _, _, _, _, _, _, _, _, _, _] := hD
  refine lv_aload_n hx hb dX6_copyFrom_44 rfl (lv_at hl 1 rfl) ?_
  refine va_get (D := D) (ci := 5) (v := .ref (o_a 3)) (C := RX6) (T := TX6) (N := 15) hx hb hts hiX6 hown hK hP 8 rfl rfl 3 (Nat.le_of_ble_eq_true rfl) fl21 (fun _ h9 => h9) rfl dX6_copyFrom_45 ?_
  refine lv_iconst (v := 0) hx hb dX6_copyFrom_48 hki_0 ?_
  refine lv_aload_n hx hb dX6_copyFrom_49 rfl (lv_at hl 0 rfl) ?_
  refine va_get (D := D) (ci := 5) (v := .ref (t_a 3)) (C := RX6) (T := TX6) (N := 15) hx hb hts hiX6 hown hK hP 0 rfl rfl 3 (Nat.le_of_ble_eq_true rfl) fl21 (fun _ h9 => h9) rfl dX6_copyFrom_50 ?_
  refine lv_iconst (v := 0) hx hb dX6_copyFrom_53 hki_0 ?_
  refine lv_bipush (v := 8) hx hb dX6_copyFrom_54 hkb_8 ?_
  refine va_copyi (ty := .int) hx hb (hml.trans hl.1.symm) hown al61 an as ai hK hP hD hS 12 4 0 0 rfl rfl rfl rfl rfl (by decide) (by decide) (by decide) (by decide) (by decide) (fun _ _ => rfl) (Nat.le_of_ble_eq_true rfl) (by decide +kernel) dX6_copyFrom_56 (fun H locs hP hD hS => ?_)
  have hP : va_P D vwCl [_, _, _, _, oqI k (t_a 3) 8 (va_cpy (o_F 3) (t_F 3) 0 0 8), _, _, _, _, _, _, _, _, _, _, _] H := hP
  have hD : va_D A [_, _, _, _, oqI k (t_a 3) 8 (va_cpy (o_F 3) (t_F 3) 0 0 8), _, _, _, _, _, _, _, _, _, _, _] := hD
  refine lv_aload_n hx hb dX6_copyFrom_59 rfl (lv_at hl 1 rfl) ?_
  refine va_get (D := D) (ci := 5) (v := .ref (o_a 4)) (C := RX6) (T := TX6) (N := 15) hx hb hts hiX6 hown hK hP 8 rfl rfl 4 (Nat.le_of_ble_eq_true rfl) fl24 (fun _ h9 => h9) rfl dX6_copyFrom_60 ?_
  refine lv_iconst (v := 0) hx hb dX6_copyFrom_63 hki_0 ?_
  refine lv_aload_n hx hb dX6_copyFrom_64 rfl (lv_at hl 0 rfl) ?_
  refine va_get (D := D) (ci := 5) (v := .ref (t_a 4)) (C := RX6) (T := TX6) (N := 15) hx hb hts hiX6 hown hK hP 0 rfl rfl 4 (Nat.le_of_ble_eq_true rfl) fl24 (fun _ h9 => h9) rfl dX6_copyFrom_65 ?_
  refine lv_iconst (v := 0) hx hb dX6_copyFrom_68 hki_0 ?_
  refine lv_bipush (v := 6) hx hb dX6_copyFrom_69 hkb_6 ?_
  refine va_copyi (ty := .int) hx hb (hml.trans hl.1.symm) hown al61 an as ai hK hP hD hS 13 5 0 0 rfl rfl rfl rfl rfl (by decide) (by decide) (by decide) (by decide) (by decide) (fun _ _ => rfl) (Nat.le_of_ble_eq_true rfl) (by decide +kernel) dX6_copyFrom_71 (fun H locs hP hD hS => ?_)
  have hP : va_P D vwCl [_, _, _, _, _, oqI k (t_a 4) 6 (va_cpy (o_F 4) (t_F 4) 0 0 6), _, _, _, _, _, _, _, _, _, _] H := hP
  have hD : va_D A [_, _, _, _, _, oqI k (t_a 4) 6 (va_cpy (o_F 4) (t_F 4) 0 0 6), _, _, _, _, _, _, _, _, _, _] := hD
  refine lv_aload_n hx hb dX6_copyFrom_74 rfl (lv_at hl 1 rfl) ?_
  refine va_get (D := D) (ci := 5) (v := .ref (o_a 5)) (C := RX6) (T := TX6) (N := 15) hx hb hts hiX6 hown hK hP 8 rfl rfl 5 (Nat.le_of_ble_eq_true rfl) fl27 (fun _ h9 => h9) rfl dX6_copyFrom_75 ?_
  refine lv_iconst (v := 0) hx hb dX6_copyFrom_78 hki_0 ?_
  refine lv_aload_n hx hb dX6_copyFrom_79 rfl (lv_at hl 0 rfl) ?_
  refine va_get (D := D) (ci := 5) (v := .ref (t_a 5)) (C := RX6) (T := TX6) (N := 15) hx hb hts hiX6 hown hK hP 0 rfl rfl 5 (Nat.le_of_ble_eq_true rfl) fl27 (fun _ h9 => h9) rfl dX6_copyFrom_80 ?_
  refine lv_iconst (v := 0) hx hb dX6_copyFrom_83 hki_0 ?_
  refine lv_bipush (v := 6) hx hb dX6_copyFrom_84 hkb_6 ?_
  refine va_copyi (ty := .int) hx hb (hml.trans hl.1.symm) hown al61 an as ai hK hP hD hS 14 6 0 0 rfl rfl rfl rfl rfl (by decide) (by decide) (by decide) (by decide) (by decide) (fun _ _ => rfl) (Nat.le_of_ble_eq_true rfl) (by decide +kernel) dX6_copyFrom_86 (fun H locs hP hD hS => ?_)
  have hP : va_P D vwCl [_, _, _, _, _, _, oqI k (t_a 5) 6 (va_cpy (o_F 5) (t_F 5) 0 0 6), _, _, _, _, _, _, _, _, _] H := hP
  have hD : va_D A [_, _, _, _, _, _, oqI k (t_a 5) 6 (va_cpy (o_F 5) (t_F 5) 0 0 6), _, _, _, _, _, _, _, _, _] := hD
  refine lv_aload_n hx hb dX6_copyFrom_89 rfl (lv_at hl 1 rfl) ?_
  refine va_get (D := D) (ci := 5) (v := .ref (o_a 6)) (C := RX6) (T := TX6) (N := 15) hx hb hts hiX6 hown hK hP 8 rfl rfl 6 (Nat.le_of_ble_eq_true rfl) fl30 (fun _ h9 => h9) rfl dX6_copyFrom_90 ?_
  refine lv_iconst (v := 0) hx hb dX6_copyFrom_93 hki_0 ?_
  refine lv_aload_n hx hb dX6_copyFrom_94 rfl (lv_at hl 0 rfl) ?_
  refine va_get (D := D) (ci := 5) (v := .ref (t_a 6)) (C := RX6) (T := TX6) (N := 15) hx hb hts hiX6 hown hK hP 0 rfl rfl 6 (Nat.le_of_ble_eq_true rfl) fl30 (fun _ h9 => h9) rfl dX6_copyFrom_95 ?_
  refine lv_iconst (v := 0) hx hb dX6_copyFrom_98 hki_0 ?_
  refine lv_bipush (v := 6) hx hb dX6_copyFrom_99 hkb_6 ?_
  refine va_copyi (ty := .int) hx hb (hml.trans hl.1.symm) hown al61 an as ai hK hP hD hS 15 7 0 0 rfl rfl rfl rfl rfl (by decide) (by decide) (by decide) (by decide) (by decide) (fun _ _ => rfl) (Nat.le_of_ble_eq_true rfl) (by decide +kernel) dX6_copyFrom_101 (fun H locs hP hD hS => ?_)
  have hP : va_P D vwCl [_, _, _, _, _, _, _, oqI k (t_a 6) 6 (va_cpy (o_F 6) (t_F 6) 0 0 6), _, _, _, _, _, _, _, _] H := hP
  have hD : va_D A [_, _, _, _, _, _, _, oqI k (t_a 6) 6 (va_cpy (o_F 6) (t_F 6) 0 0 6), _, _, _, _, _, _, _, _] := hD
  refine lv_aload_n hx hb dX6_copyFrom_104 rfl (lv_at hl 0 rfl) ?_
  refine lv_aload_n hx hb dX6_copyFrom_105 rfl (lv_at hl 1 rfl) ?_
  refine va_get (D := D) (ci := 5) (v := .int (nI (o_N 0))) (C := RX6) (T := TX6) (N := 15) hx hb hts hiX6 hown hK hP 8 rfl rfl 7 (Nat.le_of_ble_eq_true rfl) fl36 (fun _ h9 => h9) rfl dX6_copyFrom_106 ?_
  refine va_put (D := D) (ci := 5) (v := .int (nI (o_N 0))) (ty := .int) (C := RX6) (T := TX6) (N := 15) hx hb hts hiX6 tyX6 tyX6_ok nmX6 hown hK hP hD hS 0 rfl rfl 7 (Nat.le_of_ble_eq_true rfl) fl36 (fun _ h9 => h9) rfl (by decide +kernel) rfl rfl (Nat.le_of_ble_eq_true rfl) dX6_copyFrom_109 (fun H locs hP hD hS => ?_)
  have hP : va_P D vwCl [oq5 t (t_a 0) (t_a 1) (t_a 2) (t_a 3) (t_a 4) (t_a 5) (t_a 6) (nI (o_N 0)) (nI (t_N 1)) (t_J 0) (t_J 1) (t_J 2) (nI (t_N 2)) (nI (t_N 3)) (nI (t_N 4)), _, _, _, _, _, _, _, _, _, _, _, _, _, _, _] H := hP
  have hD : va_D A [oq5 t (t_a 0) (t_a 1) (t_a 2) (t_a 3) (t_a 4) (t_a 5) (t_a 6) (nI (o_N 0)) (nI (t_N 1)) (t_J 0) (t_J 1) (t_J 2) (nI (t_N 2)) (nI (t_N 3)) (nI (t_N 4)), _, _, _, _, _, _, _, _, _, _, _, _, _, _, _] := hD
  refine lv_aload_n hx hb dX6_copyFrom_112 rfl (lv_at hl 0 rfl) ?_
  refine lv_aload_n hx hb dX6_copyFrom_113 rfl (lv_at hl 1 rfl) ?_
  refine va_get (D := D) (ci := 5) (v := .int (nI (o_N 1))) (C := RX6) (T := TX6) (N := 15) hx hb hts hiX6 hown hK hP 8 rfl rfl 8 (Nat.le_of_ble_eq_true rfl) fl40 (fun _ h9 => h9) rfl dX6_copyFrom_114 ?_
  refine va_put (D := D) (ci := 5) (v := .int (nI (o_N 1))) (ty := .int) (C := RX6) (T := TX6) (N := 15) hx hb hts hiX6 tyX6 tyX6_ok nmX6 hown hK hP hD hS 0 rfl rfl 8 (Nat.le_of_ble_eq_true rfl) fl40 (fun _ h9 => h9) rfl (by decide +kernel) rfl rfl (Nat.le_of_ble_eq_true rfl) dX6_copyFrom_117 (fun H locs hP hD hS => ?_)
  have hP : va_P D vwCl [oq5 t (t_a 0) (t_a 1) (t_a 2) (t_a 3) (t_a 4) (t_a 5) (t_a 6) (nI (o_N 0)) (nI (o_N 1)) (t_J 0) (t_J 1) (t_J 2) (nI (t_N 2)) (nI (t_N 3)) (nI (t_N 4)), _, _, _, _, _, _, _, _, _, _, _, _, _, _, _] H := hP
  have hD : va_D A [oq5 t (t_a 0) (t_a 1) (t_a 2) (t_a 3) (t_a 4) (t_a 5) (t_a 6) (nI (o_N 0)) (nI (o_N 1)) (t_J 0) (t_J 1) (t_J 2) (nI (t_N 2)) (nI (t_N 3)) (nI (t_N 4)), _, _, _, _, _, _, _, _, _, _, _, _, _, _, _] := hD
  refine lv_aload_n hx hb dX6_copyFrom_120 rfl (lv_at hl 0 rfl) ?_
  refine lv_aload_n hx hb dX6_copyFrom_121 rfl (lv_at hl 1 rfl) ?_
  refine va_get (D := D) (ci := 5) (v := .int (o_J 0)) (C := RX6) (T := TX6) (N := 15) hx hb hts hiX6 hown hK hP 8 rfl rfl 9 (Nat.le_of_ble_eq_true rfl) fl43 (fun _ h9 => h9) rfl dX6_copyFrom_122 ?_
  refine va_put (D := D) (ci := 5) (v := .int (o_J 0)) (ty := .int) (C := RX6) (T := TX6) (N := 15) hx hb hts hiX6 tyX6 tyX6_ok nmX6 hown hK hP hD hS 0 rfl rfl 9 (Nat.le_of_ble_eq_true rfl) fl43 (fun _ h9 => h9) rfl (by decide +kernel) rfl rfl (Nat.le_of_ble_eq_true rfl) dX6_copyFrom_125 (fun H locs hP hD hS => ?_)
  have hP : va_P D vwCl [oq5 t (t_a 0) (t_a 1) (t_a 2) (t_a 3) (t_a 4) (t_a 5) (t_a 6) (nI (o_N 0)) (nI (o_N 1)) (o_J 0) (t_J 1) (t_J 2) (nI (t_N 2)) (nI (t_N 3)) (nI (t_N 4)), _, _, _, _, _, _, _, _, _, _, _, _, _, _, _] H := hP
  have hD : va_D A [oq5 t (t_a 0) (t_a 1) (t_a 2) (t_a 3) (t_a 4) (t_a 5) (t_a 6) (nI (o_N 0)) (nI (o_N 1)) (o_J 0) (t_J 1) (t_J 2) (nI (t_N 2)) (nI (t_N 3)) (nI (t_N 4)), _, _, _, _, _, _, _, _, _, _, _, _, _, _, _] := hD
  refine lv_aload_n hx hb dX6_copyFrom_128 rfl (lv_at hl 0 rfl) ?_
  refine lv_aload_n hx hb dX6_copyFrom_129 rfl (lv_at hl 1 rfl) ?_
  refine va_get (D := D) (ci := 5) (v := .int (o_J 1)) (C := RX6) (T := TX6) (N := 15) hx hb hts hiX6 hown hK hP 8 rfl rfl 10 (Nat.le_of_ble_eq_true rfl) fl46 (fun _ h9 => h9) rfl dX6_copyFrom_130 ?_
  refine va_put (D := D) (ci := 5) (v := .int (o_J 1)) (ty := .int) (C := RX6) (T := TX6) (N := 15) hx hb hts hiX6 tyX6 tyX6_ok nmX6 hown hK hP hD hS 0 rfl rfl 10 (Nat.le_of_ble_eq_true rfl) fl46 (fun _ h9 => h9) rfl (by decide +kernel) rfl rfl (Nat.le_of_ble_eq_true rfl) dX6_copyFrom_133 (fun H locs hP hD hS => ?_)
  have hP : va_P D vwCl [oq5 t (t_a 0) (t_a 1) (t_a 2) (t_a 3) (t_a 4) (t_a 5) (t_a 6) (nI (o_N 0)) (nI (o_N 1)) (o_J 0) (o_J 1) (t_J 2) (nI (t_N 2)) (nI (t_N 3)) (nI (t_N 4)), _, _, _, _, _, _, _, _, _, _, _, _, _, _, _] H := hP
  have hD : va_D A [oq5 t (t_a 0) (t_a 1) (t_a 2) (t_a 3) (t_a 4) (t_a 5) (t_a 6) (nI (o_N 0)) (nI (o_N 1)) (o_J 0) (o_J 1) (t_J 2) (nI (t_N 2)) (nI (t_N 3)) (nI (t_N 4)), _, _, _, _, _, _, _, _, _, _, _, _, _, _, _] := hD
  refine lv_aload_n hx hb dX6_copyFrom_136 rfl (lv_at hl 0 rfl) ?_
  refine lv_aload_n hx hb dX6_copyFrom_137 rfl (lv_at hl 1 rfl) ?_
  refine va_get (D := D) (ci := 5) (v := .int (o_J 2)) (C := RX6) (T := TX6) (N := 15) hx hb hts hiX6 hown hK hP 8 rfl rfl 11 (Nat.le_of_ble_eq_true rfl) fl49 (fun _ h9 => h9) rfl dX6_copyFrom_138 ?_
  refine va_put (D := D) (ci := 5) (v := .int (o_J 2)) (ty := .int) (C := RX6) (T := TX6) (N := 15) hx hb hts hiX6 tyX6 tyX6_ok nmX6 hown hK hP hD hS 0 rfl rfl 11 (Nat.le_of_ble_eq_true rfl) fl49 (fun _ h9 => h9) rfl (by decide +kernel) rfl rfl (Nat.le_of_ble_eq_true rfl) dX6_copyFrom_141 (fun H locs hP hD hS => ?_)
  have hP : va_P D vwCl [oq5 t (t_a 0) (t_a 1) (t_a 2) (t_a 3) (t_a 4) (t_a 5) (t_a 6) (nI (o_N 0)) (nI (o_N 1)) (o_J 0) (o_J 1) (o_J 2) (nI (t_N 2)) (nI (t_N 3)) (nI (t_N 4)), _, _, _, _, _, _, _, _, _, _, _, _, _, _, _] H := hP
  have hD : va_D A [oq5 t (t_a 0) (t_a 1) (t_a 2) (t_a 3) (t_a 4) (t_a 5) (t_a 6) (nI (o_N 0)) (nI (o_N 1)) (o_J 0) (o_J 1) (o_J 2) (nI (t_N 2)) (nI (t_N 3)) (nI (t_N 4)), _, _, _, _, _, _, _, _, _, _, _, _, _, _, _] := hD
  refine lv_aload_n hx hb dX6_copyFrom_144 rfl (lv_at hl 0 rfl) ?_
  refine lv_aload_n hx hb dX6_copyFrom_145 rfl (lv_at hl 1 rfl) ?_
  refine va_get (D := D) (ci := 5) (v := .int (nI (o_N 2))) (C := RX6) (T := TX6) (N := 15) hx hb hts hiX6 hown hK hP 8 rfl rfl 12 (Nat.le_of_ble_eq_true rfl) fl52 (fun _ h9 => h9) rfl dX6_copyFrom_146 ?_
  refine va_put (D := D) (ci := 5) (v := .int (nI (o_N 2))) (ty := .int) (C := RX6) (T := TX6) (N := 15) hx hb hts hiX6 tyX6 tyX6_ok nmX6 hown hK hP hD hS 0 rfl rfl 12 (Nat.le_of_ble_eq_true rfl) fl52 (fun _ h9 => h9) rfl (by decide +kernel) rfl rfl (Nat.le_of_ble_eq_true rfl) dX6_copyFrom_149 (fun H locs hP hD hS => ?_)
  have hP : va_P D vwCl [oq5 t (t_a 0) (t_a 1) (t_a 2) (t_a 3) (t_a 4) (t_a 5) (t_a 6) (nI (o_N 0)) (nI (o_N 1)) (o_J 0) (o_J 1) (o_J 2) (nI (o_N 2)) (nI (t_N 3)) (nI (t_N 4)), _, _, _, _, _, _, _, _, _, _, _, _, _, _, _] H := hP
  have hD : va_D A [oq5 t (t_a 0) (t_a 1) (t_a 2) (t_a 3) (t_a 4) (t_a 5) (t_a 6) (nI (o_N 0)) (nI (o_N 1)) (o_J 0) (o_J 1) (o_J 2) (nI (o_N 2)) (nI (t_N 3)) (nI (t_N 4)), _, _, _, _, _, _, _, _, _, _, _, _, _, _, _] := hD
  refine lv_aload_n hx hb dX6_copyFrom_152 rfl (lv_at hl 0 rfl) ?_
  refine lv_aload_n hx hb dX6_copyFrom_153 rfl (lv_at hl 1 rfl) ?_
  refine va_get (D := D) (ci := 5) (v := .int (nI (o_N 3))) (C := RX6) (T := TX6) (N := 15) hx hb hts hiX6 hown hK hP 8 rfl rfl 13 (Nat.le_of_ble_eq_true rfl) fl55 (fun _ h9 => h9) rfl dX6_copyFrom_154 ?_
  refine va_put (D := D) (ci := 5) (v := .int (nI (o_N 3))) (ty := .int) (C := RX6) (T := TX6) (N := 15) hx hb hts hiX6 tyX6 tyX6_ok nmX6 hown hK hP hD hS 0 rfl rfl 13 (Nat.le_of_ble_eq_true rfl) fl55 (fun _ h9 => h9) rfl (by decide +kernel) rfl rfl (Nat.le_of_ble_eq_true rfl) dX6_copyFrom_157 (fun H locs hP hD hS => ?_)
  have hP : va_P D vwCl [oq5 t (t_a 0) (t_a 1) (t_a 2) (t_a 3) (t_a 4) (t_a 5) (t_a 6) (nI (o_N 0)) (nI (o_N 1)) (o_J 0) (o_J 1) (o_J 2) (nI (o_N 2)) (nI (o_N 3)) (nI (t_N 4)), _, _, _, _, _, _, _, _, _, _, _, _, _, _, _] H := hP
  have hD : va_D A [oq5 t (t_a 0) (t_a 1) (t_a 2) (t_a 3) (t_a 4) (t_a 5) (t_a 6) (nI (o_N 0)) (nI (o_N 1)) (o_J 0) (o_J 1) (o_J 2) (nI (o_N 2)) (nI (o_N 3)) (nI (t_N 4)), _, _, _, _, _, _, _, _, _, _, _, _, _, _, _] := hD
  refine lv_aload_n hx hb dX6_copyFrom_160 rfl (lv_at hl 0 rfl) ?_
  refine lv_aload_n hx hb dX6_copyFrom_161 rfl (lv_at hl 1 rfl) ?_
  refine va_get (D := D) (ci := 5) (v := .int (nI (o_N 4))) (C := RX6) (T := TX6) (N := 15) hx hb hts hiX6 hown hK hP 8 rfl rfl 14 (Nat.le_of_ble_eq_true rfl) fl58 (fun _ h9 => h9) rfl dX6_copyFrom_162 ?_
  refine va_put (D := D) (ci := 5) (v := .int (nI (o_N 4))) (ty := .int) (C := RX6) (T := TX6) (N := 15) hx hb hts hiX6 tyX6 tyX6_ok nmX6 hown hK hP hD hS 0 rfl rfl 14 (Nat.le_of_ble_eq_true rfl) fl58 (fun _ h9 => h9) rfl (by decide +kernel) rfl rfl (Nat.le_of_ble_eq_true rfl) dX6_copyFrom_165 (fun H locs hP hD hS => ?_)
  have hP : va_P D vwCl [oqT t t_a o_N o_J, _, _, _, _, _, _, _, _, _, _, _, _, _, _, _] H := hP
  have hD : va_D A [oqT t t_a o_N o_J, _, _, _, _, _, _, _, _, _, _, _, _, _, _, _] := hD
  exact hs_vret hx hb hr hlocks hK hP hD hS (fun j => ([va_cpy (o_F 0) (t_F 0) 0 0 8, va_cpy (o_F 1) (t_F 1) 0 0 4, va_cpy (o_F 2) (t_F 2) 0 0 8, va_cpy (o_F 3) (t_F 3) 0 0 8, va_cpy (o_F 4) (t_F 4) 0 0 6, va_cpy (o_F 5) (t_F 5) 0 0 6, va_cpy (o_F 6) (t_F 6) 0 0 6] : List (Nat → Int32)).getD j hsz) [0, 1, 2, 3, 4, 5, 6, 7, 8, 9, 10, 11, 12, 13, 14, 15] rfl (hs_upnd rfl) dX6_copyFrom_168 (hs_cpy7 t_F o_F)

set_option maxHeartbeats 4000000 in
set_option maxRecDepth 100000 in
theorem g_bitCount (l : Launch) (D : va_G) (k : Nat → ClassId) (sz : Nat) (v : Int32)  : MI l yJ6_bitCount_0f7a4 wsJ6_bitCount_0f7a4 ({ frames := 0, cells := 0, slots := 0, locals := 0 }) D k [.int v] [] sz (fun (r : Int32) (u : Unit) => True) (fun (u : Unit) => []) := by
  refine Met.ofW (cc := cJ6_bitCount_0f7a4) (maxL := 1) (ret := (some .int)) hpn_J6 rfl ?_
  intro p e s m args below meth c s₁ B hml hv
  obtain ⟨rfl, hsz, hP, hK, hD0, hN⟩ := hv
  have hx := B.exec
  have hb := B.bytes
  have hr := B.returns
  have hlocks := B.notSynchronized
  have hts := atoms_spec (ws := wsJ6_bitCount_0f7a4) B.pre
  have hown := findClass_of_methodNamed B.named
  have hown : s.vm.findClass RJ6 = some m.cls := hown
  have kc265 := hts (.constant RJ6 265 (1431655765)) (List.mem_cons_of_mem _ (hs_inG 3 87 rfl rfl))
  have kc266 := hts (.constant RJ6 266 (858993459)) (List.mem_cons_of_mem _ (hs_inG 3 88 rfl rfl))
  have kc267 := hts (.constant RJ6 267 (252645135)) (List.mem_cons_of_mem _ (hs_inG 3 89 rfl rfl))
  subst hsz
  have hD := hD0.self (sz := s.heap.size)
  generalize hAe : va_A [] s.heap.size = A at hD ⊢
  have hA : ∀ q : Nat, s.heap.size ≤ q → A q := fun q h => by rw [← hAe]; exact Or.inr h
  have hS : va_S A s.heap s.heap [] := va_S.rf
  have hl := lv_entry ([.int v]) (n := 1) (Nat.le_of_ble_eq_true rfl)
  rw [lg_entry_eq]
  generalize (lg_sl ([.int v]) ++ List.replicate (1 - (lg_sl ([.int v])).length) Slot.unset).toArray = ls at hl ⊢
  have hl : lv_has ls 1 [(0, .int v)] := hl
  have hP : va_P D vwCl [] s.heap := hP
  refine lv_iload_n hx hb dJ6_bitCount_0f7a4_0 rfl (lv_at hl 0 rfl) ?_
  refine lv_iload_n hx hb dJ6_bitCount_0f7a4_1 rfl (lv_at hl 0 rfl) ?_
  refine lv_iconst (v := 1) hx hb dJ6_bitCount_0f7a4_2 hki_1 ?_
  refine lv_iushr hx hb dJ6_bitCount_0f7a4_3 rfl ?_
  refine lv_ldcw hx hb hown kc265 dJ6_bitCount_0f7a4_4 ?_
  refine lv_iand hx hb dJ6_bitCount_0f7a4_7 ?_
  refine lv_isub hx hb dJ6_bitCount_0f7a4_8 ?_
  refine lv_istore_n (lv' := [(0, .int (v - (((((v) : Int32).toUInt32 >>> (((1) : Int32).toUInt32 &&& Int32.toUInt32 31)).toInt32) &&& 1431655765)))]) hx hb dJ6_bitCount_0f7a4_9 rfl hl (Nat.le_of_ble_eq_true rfl) rfl (fun ls hl => ?_)
  refine lv_iload_n hx hb dJ6_bitCount_0f7a4_10 rfl (lv_at hl 0 rfl) ?_
  refine lv_ldcw hx hb hown kc266 dJ6_bitCount_0f7a4_11 ?_
  refine lv_iand hx hb dJ6_bitCount_0f7a4_14 ?_
  refine lv_iload_n hx hb dJ6_bitCount_0f7a4_15 rfl (lv_at hl 0 rfl) ?_
  refine lv_iconst (v := 2) hx hb dJ6_bitCount_0f7a4_16 hki_2 ?_
  refine lv_iushr hx hb dJ6_bitCount_0f7a4_17 rfl ?_
  refine lv_ldcw hx hb hown kc266 dJ6_bitCount_0f7a4_18 ?_
  refine lv_iand hx hb dJ6_bitCount_0f7a4_21 ?_
  refine lv_iadd hx hb dJ6_bitCount_0f7a4_22 ?_
  refine lv_istore_n (lv' := [(0, .int (((v - (((((v) : Int32).toUInt32 >>> (((1) : Int32).toUInt32 &&& Int32.toUInt32 31)).toInt32) &&& 1431655765)) &&& 858993459) + (((((v - (((((v) : Int32).toUInt32 >>> (((1) : Int32).toUInt32 &&& Int32.toUInt32 31)).toInt32) &&& 1431655765)) : Int32).toUInt32 >>> (((2) : Int32).toUInt32 &&& Int32.toUInt32 31)).toInt32) &&& 858993459)))]) hx hb dJ6_bitCount_0f7a4_23 rfl hl (Nat.le_of_ble_eq_true rfl) rfl (fun ls hl => ?_)
  refine lv_iload_n hx hb dJ6_bitCount_0f7a4_24 rfl (lv_at hl 0 rfl) ?_
  refine lv_iload_n hx hb dJ6_bitCount_0f7a4_25 rfl (lv_at hl 0 rfl) ?_
  refine lv_iconst (v := 4) hx hb dJ6_bitCount_0f7a4_26 hki_4 ?_
  refine lv_iushr hx hb dJ6_bitCount_0f7a4_27 rfl ?_
  refine lv_iadd hx hb dJ6_bitCount_0f7a4_28 ?_
  refine lv_ldcw hx hb hown kc267 dJ6_bitCount_0f7a4_29 ?_
  refine lv_iand hx hb dJ6_bitCount_0f7a4_32 ?_
  refine lv_istore_n (lv' := [(0, .int (((((v - (((((v) : Int32).toUInt32 >>> (((1) : Int32).toUInt32 &&& Int32.toUInt32 31)).toInt32) &&& 1431655765)) &&& 858993459) + (((((v - (((((v) : Int32).toUInt32 >>> (((1) : Int32).toUInt32 &&& Int32.toUInt32 31)).toInt32) &&& 1431655765)) : Int32).toUInt32 >>> (((2) : Int32).toUInt32 &&& Int32.toUInt32 31)).toInt32) &&& 858993459)) + ((((((v - (((((v) : Int32).toUInt32 >>> (((1) : Int32).toUInt32 &&& Int32.toUInt32 31)).toInt32) &&& 1431655765)) &&& 858993459) + (((((v - (((((v) : Int32).toUInt32 >>> (((1) : Int32).toUInt32 &&& Int32.toUInt32 31)).toInt32) &&& 1431655765)) : Int32).toUInt32 >>> (((2) : Int32).toUInt32 &&& Int32.toUInt32 31)).toInt32) &&& 858993459)) : Int32).toUInt32 >>> (((4) : Int32).toUInt32 &&& Int32.toUInt32 31)).toInt32)) &&& 252645135))]) hx hb dJ6_bitCount_0f7a4_33 rfl hl (Nat.le_of_ble_eq_true rfl) rfl (fun ls hl => ?_)
  refine lv_iload_n hx hb dJ6_bitCount_0f7a4_34 rfl (lv_at hl 0 rfl) ?_
  refine lv_iload_n hx hb dJ6_bitCount_0f7a4_35 rfl (lv_at hl 0 rfl) ?_
  refine lv_bipush (v := 8) hx hb dJ6_bitCount_0f7a4_36 hkb_8 ?_
  refine lv_iushr hx hb dJ6_bitCount_0f7a4_38 rfl ?_
  refine lv_iadd hx hb dJ6_bitCount_0f7a4_39 ?_
  refine lv_istore_n (lv' := [(0, .int ((((((v - (((((v) : Int32).toUInt32 >>> (((1) : Int32).toUInt32 &&& Int32.toUInt32 31)).toInt32) &&& 1431655765)) &&& 858993459) + (((((v - (((((v) : Int32).toUInt32 >>> (((1) : Int32).toUInt32 &&& Int32.toUInt32 31)).toInt32) &&& 1431655765)) : Int32).toUInt32 >>> (((2) : Int32).toUInt32 &&& Int32.toUInt32 31)).toInt32) &&& 858993459)) + ((((((v - (((((v) : Int32).toUInt32 >>> (((1) : Int32).toUInt32 &&& Int32.toUInt32 31)).toInt32) &&& 1431655765)) &&& 858993459) + (((((v - (((((v) : Int32).toUInt32 >>> (((1) : Int32).toUInt32 &&& Int32.toUInt32 31)).toInt32) &&& 1431655765)) : Int32).toUInt32 >>> (((2) : Int32).toUInt32 &&& Int32.toUInt32 31)).toInt32) &&& 858993459)) : Int32).toUInt32 >>> (((4) : Int32).toUInt32 &&& Int32.toUInt32 31)).toInt32)) &&& 252645135) + ((((((((v - (((((v) : Int32).toUInt32 >>> (((1) : Int32).toUInt32 &&& Int32.toUInt32 31)).toInt32) &&& 1431655765)) &&& 858993459) + (((((v - (((((v) : Int32).toUInt32 >>> (((1) : Int32).toUInt32 &&& Int32.toUInt32 31)).toInt32) &&& 1431655765)) : Int32).toUInt32 >>> (((2) : Int32).toUInt32 &&& Int32.toUInt32 31)).toInt32) &&& 858993459)) + ((((((v - (((((v) : Int32).toUInt32 >>> (((1) : Int32).toUInt32 &&& Int32.toUInt32 31)).toInt32) &&& 1431655765)) &&& 858993459) + (((((v - (((((v) : Int32).toUInt32 >>> (((1) : Int32).toUInt32 &&& Int32.toUInt32 31)).toInt32) &&& 1431655765)) : Int32).toUInt32 >>> (((2) : Int32).toUInt32 &&& Int32.toUInt32 31)).toInt32) &&& 858993459)) : Int32).toUInt32 >>> (((4) : Int32).toUInt32 &&& Int32.toUInt32 31)).toInt32)) &&& 252645135) : Int32).toUInt32 >>> (((8) : Int32).toUInt32 &&& Int32.toUInt32 31)).toInt32)))]) hx hb dJ6_bitCount_0f7a4_40 rfl hl (Nat.le_of_ble_eq_true rfl) rfl (fun ls hl => ?_)
  refine lv_iload_n hx hb dJ6_bitCount_0f7a4_41 rfl (lv_at hl 0 rfl) ?_
  refine lv_iload_n hx hb dJ6_bitCount_0f7a4_42 rfl (lv_at hl 0 rfl) ?_
  refine lv_bipush (v := 16) hx hb dJ6_bitCount_0f7a4_43 hkb_16 ?_
  refine lv_iushr hx hb dJ6_bitCount_0f7a4_45 rfl ?_
  refine lv_iadd hx hb dJ6_bitCount_0f7a4_46 ?_
  refine lv_istore_n (lv' := [(0, .int (((((((v - (((((v) : Int32).toUInt32 >>> (((1) : Int32).toUInt32 &&& Int32.toUInt32 31)).toInt32) &&& 1431655765)) &&& 858993459) + (((((v - (((((v) : Int32).toUInt32 >>> (((1) : Int32).toUInt32 &&& Int32.toUInt32 31)).toInt32) &&& 1431655765)) : Int32).toUInt32 >>> (((2) : Int32).toUInt32 &&& Int32.toUInt32 31)).toInt32) &&& 858993459)) + ((((((v - (((((v) : Int32).toUInt32 >>> (((1) : Int32).toUInt32 &&& Int32.toUInt32 31)).toInt32) &&& 1431655765)) &&& 858993459) + (((((v - (((((v) : Int32).toUInt32 >>> (((1) : Int32).toUInt32 &&& Int32.toUInt32 31)).toInt32) &&& 1431655765)) : Int32).toUInt32 >>> (((2) : Int32).toUInt32 &&& Int32.toUInt32 31)).toInt32) &&& 858993459)) : Int32).toUInt32 >>> (((4) : Int32).toUInt32 &&& Int32.toUInt32 31)).toInt32)) &&& 252645135) + ((((((((v - (((((v) : Int32).toUInt32 >>> (((1) : Int32).toUInt32 &&& Int32.toUInt32 31)).toInt32) &&& 1431655765)) &&& 858993459) + (((((v - (((((v) : Int32).toUInt32 >>> (((1) : Int32).toUInt32 &&& Int32.toUInt32 31)).toInt32) &&& 1431655765)) : Int32).toUInt32 >>> (((2) : Int32).toUInt32 &&& Int32.toUInt32 31)).toInt32) &&& 858993459)) + ((((((v - (((((v) : Int32).toUInt32 >>> (((1) : Int32).toUInt32 &&& Int32.toUInt32 31)).toInt32) &&& 1431655765)) &&& 858993459) + (((((v - (((((v) : Int32).toUInt32 >>> (((1) : Int32).toUInt32 &&& Int32.toUInt32 31)).toInt32) &&& 1431655765)) : Int32).toUInt32 >>> (((2) : Int32).toUInt32 &&& Int32.toUInt32 31)).toInt32) &&& 858993459)) : Int32).toUInt32 >>> (((4) : Int32).toUInt32 &&& Int32.toUInt32 31)).toInt32)) &&& 252645135) : Int32).toUInt32 >>> (((8) : Int32).toUInt32 &&& Int32.toUInt32 31)).toInt32)) + (((((((((v - (((((v) : Int32).toUInt32 >>> (((1) : Int32).toUInt32 &&& Int32.toUInt32 31)).toInt32) &&& 1431655765)) &&& 858993459) + (((((v - (((((v) : Int32).toUInt32 >>> (((1) : Int32).toUInt32 &&& Int32.toUInt32 31)).toInt32) &&& 1431655765)) : Int32).toUInt32 >>> (((2) : Int32).toUInt32 &&& Int32.toUInt32 31)).toInt32) &&& 858993459)) + ((((((v - (((((v) : Int32).toUInt32 >>> (((1) : Int32).toUInt32 &&& Int32.toUInt32 31)).toInt32) &&& 1431655765)) &&& 858993459) + (((((v - (((((v) : Int32).toUInt32 >>> (((1) : Int32).toUInt32 &&& Int32.toUInt32 31)).toInt32) &&& 1431655765)) : Int32).toUInt32 >>> (((2) : Int32).toUInt32 &&& Int32.toUInt32 31)).toInt32) &&& 858993459)) : Int32).toUInt32 >>> (((4) : Int32).toUInt32 &&& Int32.toUInt32 31)).toInt32)) &&& 252645135) + ((((((((v - (((((v) : Int32).toUInt32 >>> (((1) : Int32).toUInt32 &&& Int32.toUInt32 31)).toInt32) &&& 1431655765)) &&& 858993459) + (((((v - (((((v) : Int32).toUInt32 >>> (((1) : Int32).toUInt32 &&& Int32.toUInt32 31)).toInt32) &&& 1431655765)) : Int32).toUInt32 >>> (((2) : Int32).toUInt32 &&& Int32.toUInt32 31)).toInt32) &&& 858993459)) + ((((((v - (((((v) : Int32).toUInt32 >>> (((1) : Int32).toUInt32 &&& Int32.toUInt32 31)).toInt32) &&& 1431655765)) &&& 858993459) + (((((v - (((((v) : Int32).toUInt32 >>> (((1) : Int32).toUInt32 &&& Int32.toUInt32 31)).toInt32) &&& 1431655765)) : Int32).toUInt32 >>> (((2) : Int32).toUInt32 &&& Int32.toUInt32 31)).toInt32) &&& 858993459)) : Int32).toUInt32 >>> (((4) : Int32).toUInt32 &&& Int32.toUInt32 31)).toInt32)) &&& 252645135) : Int32).toUInt32 >>> (((8) : Int32).toUInt32 &&& Int32.toUInt32 31)).toInt32)) : Int32).toUInt32 >>> (((16) : Int32).toUInt32 &&& Int32.toUInt32 31)).toInt32)))]) hx hb dJ6_bitCount_0f7a4_47 rfl hl (Nat.le_of_ble_eq_true rfl) rfl (fun ls hl => ?_)
  refine lv_iload_n hx hb dJ6_bitCount_0f7a4_48 rfl (lv_at hl 0 rfl) ?_
  refine lv_bipush (v := 63) hx hb dJ6_bitCount_0f7a4_49 hkb_63 ?_
  refine lv_iand hx hb dJ6_bitCount_0f7a4_51 ?_
  exact hs_iret hx hb hr hlocks hK hP hD hS () [] rfl (hs_upnd rfl) dJ6_bitCount_0f7a4_52 (trivial)
