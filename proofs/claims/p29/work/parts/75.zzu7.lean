set_option maxHeartbeats 4000000 in
set_option maxRecDepth 100000 in
theorem gf_isTrial (l : Launch) (D : va_G) (k : Nat → ClassId) (sz : Nat) (h : Nat) (h_now : Nat) (h_trial : Nat) (h_images : Nat) (h_imageThere : Nat) (h_teller : Nat) (h_ranks : Nat) (h_court : Nat) (h_sheets : Nat) (h_lf : Int32) (h_lt : Int32) (n_a : Nat → Nat) (n_N : Nat → Nat) (n_J : Nat → Int32) (v : Int32) (i : Int32) (what : Int32) (hN0 : thN n_N) : MI l yX7_isTrial wsX7_isTrial ({ frames := 2, cells := 0, slots := 0, locals := 43 }) D k [.ref h, .int v, .int i, .int what] [oq6 h h_now h_trial h_images h_imageThere h_teller h_ranks h_court h_sheets h_lf h_lt, oqT h_now n_a n_N n_J] sz (fun (r : Int32) (u : Unit) => r = hsb (hsin v 0 10 && hslt1 i (n_N 0) && hsin what 0 1)) (fun (u : Unit) => [oq6 h h_now h_trial h_images h_imageThere h_teller h_ranks h_court h_sheets h_lf h_lt, oqT h_now n_a n_N n_J]) := by
  refine Met.ofW (cc := cX7_isTrial) (maxL := 4) (ret := (some .boolean)) hpn_X7 rfl ?_
  intro p e s m args below meth c s₁ B hml hv
  obtain ⟨rfl, hsz, hP, hK, hD0, hN⟩ := hv
  have hx := B.exec
  have hb := B.bytes
  have hr := B.returns
  have hlocks := B.notSynchronized
  have hts := atoms_spec (ws := wsX7_isTrial) B.pre
  have hown := findClass_of_methodNamed B.named
  have hown : s.vm.findClass RX7 = some m.cls := hown
  have hiX7 : ∀ w ∈ u_ws RX7 TX7 10, w ∈ wsX7_isTrial := fun w9 hw9 => List.mem_cons_of_mem _ (igX7 w9 hw9)
  have fl10 := hts (.fieldLink RX7 10 "HalfScales" "now" "LHalfScales$Thing;") (List.mem_cons_of_mem _ (hs_inG 1 215 rfl rfl))
  subst hsz
  have hD := hD0.self (sz := s.heap.size)
  generalize hAe : va_A [oq6 h h_now h_trial h_images h_imageThere h_teller h_ranks h_court h_sheets h_lf h_lt, oqT h_now n_a n_N n_J] s.heap.size = A at hD ⊢
  have hA : ∀ q : Nat, s.heap.size ≤ q → A q := fun q h => by rw [← hAe]; exact Or.inr h
  have hS : va_S A s.heap s.heap [] := va_S.rf
  have hl := lv_entry ([.ref h, .int v, .int i, .int what]) (n := 4) (Nat.le_of_ble_eq_true rfl)
  rw [lg_entry_eq]
  generalize (lg_sl ([.ref h, .int v, .int i, .int what]) ++ List.replicate (4 - (lg_sl ([.ref h, .int v, .int i, .int what])).length) Slot.unset).toArray = ls at hl ⊢
  have hl : lv_has ls 4 [(0, .ref h), (1, .int v), (2, .int i), (3, .int what)] := hl
  have hP : va_P D vwCl [oq6 h h_now h_trial h_images h_imageThere h_teller h_ranks h_court h_sheets h_lf h_lt, oqT h_now n_a n_N n_J] s.heap := hP
  refine lv_iload_n hx hb dX7_isTrial_0 rfl (lv_at hl 1 rfl) ?_
  refine lv_iconst (v := 0) hx hb dX7_isTrial_1 hki_0 ?_
  refine lv_bipush (v := 10) hx hb dX7_isTrial_2 hkb_10 ?_
  refine hs_pi (va_runS (As := [.int v, .int 0, .int 10]) (rest := []) ⟨hx, hb, hml, hown, hts⟩ (g_within l D k _ v 0 10) (va_cwS 3 hts gX7_isTrial_X7_within rfl rfl rfl hq_X7_within ⟨Nat.le_of_ble_eq_true rfl, Nat.le_of_ble_eq_true rfl⟩) (hs_preS hK hN (hs_subP (w := []) hP [] rfl) (hD.sub (ws' := []) [] rfl rfl)) rfl rfl hl.1 rfl (lv_room (Nat.le_of_ble_eq_true rfl)) dX7_isTrial_4 ⟨Nat.le_of_ble_eq_true rfl, Nat.le_of_ble_eq_true rfl⟩) hP hD hS hA (fun r_1 u_3 H locs hw_2 hP hS => ?_)
  refine hs_topi (hsb (hsin v 0 10)) hw_2 ?_
  refine lv_if_eq (tgt := 34) hx hb dX7_isTrial_7 rfl (fun c_4 => ?_) (fun c_4 => ?_)
  · refine lv_iconst (v := 0) hx hb dX7_isTrial_34 hki_0 ?_
    exact hs_zret hx hb hr hlocks hK hP hD hS () [0, 1] rfl (hs_upnd rfl) dX7_isTrial_35 rfl ((by rw [hs_n0 c_4, Bool.false_and, Bool.false_and]; rfl))
  · refine lv_aload_n hx hb dX7_isTrial_10 rfl (lv_at hl 0 rfl) ?_
    refine va_get (D := D) (ci := 6) (v := .ref h_now) (C := RX7) (T := TX7) (N := 10) hx hb hts hiX7 hown hK hP 0 rfl rfl 0 (Nat.le_of_ble_eq_true rfl) fl10 (fun _ h9 => h9) rfl dX7_isTrial_11 ?_
    refine lv_iload_n hx hb dX7_isTrial_14 rfl (lv_at hl 2 rfl) ?_
    refine hs_ciM (va_runV (As := [.int i]) (rest := []) ⟨hx, hb, hml, hown, hts⟩ (g_isCut l D k _ h_now n_a n_N n_J i (by first | assumption | exact ⟨by first | omega | (dsimp; omega), by first | omega | (dsimp; omega), ⟨by first | omega | (dsimp; omega), by first | omega | (dsimp; omega)⟩, by first | omega | (dsimp; omega), by first | omega | (dsimp; omega)⟩)) (cwV 1 hts gX7_isTrial_X6_isCut rfl rfl rfl ⟨rfl, hq_X6_isCut⟩ ⟨Nat.le_of_ble_eq_true rfl, Nat.le_of_ble_eq_true rfl⟩) (hs_preV hK hN (hs_subP (w := [_]) hP [1] rfl) (hD.sub (ws' := [_]) [1] (hs_upnd rfl) rfl) (ci := 5) (q0 := 0) rfl rfl) rfl rfl hl.1 rfl (lv_room (Nat.le_of_ble_eq_true rfl)) dX7_isTrial_15 ⟨Nat.le_of_ble_eq_true rfl, Nat.le_of_ble_eq_true rfl⟩) hP hD hS hA [true, false] [_] [_] rfl [0] rfl [0] (fun u_7 => [_]) (fun _ => rfl) (hs_upnd rfl) [true, false] (fun u_7 => [_, _]) (fun _ => rfl) (fun r_5 u_7 H locs hw_6 hP hD hS => ?_)
    refine hs_topi (hsb (hslt1 i (n_N 0))) hw_6 ?_
    refine lv_if_eq (tgt := 34) hx hb dX7_isTrial_18 rfl (fun c_8 => ?_) (fun c_8 => ?_)
    · refine lv_iconst (v := 0) hx hb dX7_isTrial_34 hki_0 ?_
      exact hs_zret hx hb hr hlocks hK hP hD hS () [0, 1] rfl (hs_upnd rfl) dX7_isTrial_35 rfl ((by rw [hs_n0 c_8, Bool.and_false, Bool.false_and]; rfl))
    · refine lv_iload_n hx hb dX7_isTrial_21 rfl (lv_at hl 3 rfl) ?_
      refine lv_iconst (v := 0) hx hb dX7_isTrial_22 hki_0 ?_
      refine lv_iconst (v := 1) hx hb dX7_isTrial_23 hki_1 ?_
      refine hs_pi (va_runS (As := [.int what, .int 0, .int 1]) (rest := []) ⟨hx, hb, hml, hown, hts⟩ (g_within l D k _ what 0 1) (va_cwS 3 hts gX7_isTrial_X7_within rfl rfl rfl hq_X7_within ⟨Nat.le_of_ble_eq_true rfl, Nat.le_of_ble_eq_true rfl⟩) (hs_preS hK hN (hs_subP (w := []) hP [] rfl) (hD.sub (ws' := []) [] rfl rfl)) rfl rfl hl.1 rfl (lv_room (Nat.le_of_ble_eq_true rfl)) dX7_isTrial_24 ⟨Nat.le_of_ble_eq_true rfl, Nat.le_of_ble_eq_true rfl⟩) hP hD hS hA (fun r_9 u_11 H locs hw_10 hP hS => ?_)
      refine hs_topi (hsb (hsin what 0 1)) hw_10 ?_
      refine lv_if_eq (tgt := 34) hx hb dX7_isTrial_27 rfl (fun c_12 => ?_) (fun c_12 => ?_)
      · refine lv_iconst (v := 0) hx hb dX7_isTrial_34 hki_0 ?_
        exact hs_zret hx hb hr hlocks hK hP hD hS () [0, 1] rfl (hs_upnd rfl) dX7_isTrial_35 rfl ((by rw [hs_n0 c_12, Bool.and_false]; rfl))
      · refine lv_iconst (v := 1) hx hb dX7_isTrial_30 hki_1 ?_
        refine lv_goto (tgt := 35) hx hb dX7_isTrial_31 rfl ?_
        exact hs_zret hx hb hr hlocks hK hP hD hS () [0, 1] rfl (hs_upnd rfl) dX7_isTrial_35 rfl ((by rw [hs_nb c_4, hs_nb c_8, hs_nb c_12]; rfl))

set_option maxHeartbeats 4000000 in
set_option maxRecDepth 100000 in
theorem gf_saysJust (l : Launch) (D : va_G) (k : Nat → ClassId) (sz : Nat) (v : Int32) (ju : Int32) (q : Nat)  : MI l yX0_saysJust wsX0_saysJust ({ frames := 0, cells := 0, slots := 0, locals := 0 }) D k [.int v, .int ju, .int (nI q)] [] sz (fun (r : Int32) (u : Unit) => r = A_sj v ju q) (fun (u : Unit) => []) := by
  refine Met.ofW (cc := cX0_saysJust) (maxL := 3) (ret := (some .int)) hpn_X0 rfl ?_
  intro p e s m args below meth c s₁ B hml hv
  obtain ⟨rfl, hsz, hP, hK, hD0, hN⟩ := hv
  have hx := B.exec
  have hb := B.bytes
  have hr := B.returns
  have hlocks := B.notSynchronized
  have hts := atoms_spec (ws := wsX0_saysJust) B.pre
  have hown := findClass_of_methodNamed B.named
  have hown : s.vm.findClass RX0 = some m.cls := hown
  subst hsz
  have hD := hD0.self (sz := s.heap.size)
  generalize hAe : va_A [] s.heap.size = A at hD ⊢
  have hA : ∀ q : Nat, s.heap.size ≤ q → A q := fun q h => by rw [← hAe]; exact Or.inr h
  have hS : va_S A s.heap s.heap [] := va_S.rf
  have hl := lv_entry ([.int v, .int ju, .int (nI q)]) (n := 3) (Nat.le_of_ble_eq_true rfl)
  rw [lg_entry_eq]
  generalize (lg_sl ([.int v, .int ju, .int (nI q)]) ++ List.replicate (3 - (lg_sl ([.int v, .int ju, .int (nI q)])).length) Slot.unset).toArray = ls at hl ⊢
  have hl : lv_has ls 3 [(0, .int v), (1, .int ju), (2, .int (nI q))] := hl
  have hP : va_P D vwCl [] s.heap := hP
  refine lv_iload_n hx hb dX0_saysJust_0 rfl (lv_at hl 1 rfl) ?_
  refine lv_iload_n hx hb dX0_saysJust_1 rfl (lv_at hl 2 rfl) ?_
  refine lv_ishr hx hb dX0_saysJust_2 ?_
  refine lv_iconst (v := 1) hx hb dX0_saysJust_3 hki_1 ?_
  refine lv_iand hx hb dX0_saysJust_4 ?_
  refine lv_iconst (v := 1) hx hb dX0_saysJust_5 hki_1 ?_
  refine lv_icmp_ne (tgt := 16) hx hb dX0_saysJust_6 rfl (fun c_1 => ?_) (fun c_1 => ?_)
  · refine lv_iload_n hx hb dX0_saysJust_16 rfl (lv_at hl 0 rfl) ?_
    exact hs_iret hx hb hr hlocks hK hP hD hS () [] rfl (hs_upnd rfl) dX0_saysJust_17 ((by rw [A_sj, if_neg c_1]))
  · refine lv_bipush (v := 10) hx hb dX0_saysJust_9 hkb_10 ?_
    refine lv_iload_n hx hb dX0_saysJust_11 rfl (lv_at hl 0 rfl) ?_
    refine lv_isub hx hb dX0_saysJust_12 ?_
    refine lv_goto (tgt := 17) hx hb dX0_saysJust_13 rfl ?_
    exact hs_iret hx hb hr hlocks hK hP hD hS () [] rfl (hs_upnd rfl) dX0_saysJust_17 ((by rw [A_sj, if_pos c_1]))

set_option maxHeartbeats 4000000 in
set_option maxRecDepth 100000 in
theorem gf_lowest (l : Launch) (D : va_G) (k : Nat → ClassId) (sz : Nat) (a : Int64) (b : Int64) (w : Int32) (hlo : 0 ≤ a.toInt) (ha40 : a.toInt.natAbs < 2 ^ 40) (hup : 0 < b.toInt) : ML l yX0_lowest wsX0_lowest ({ frames := 0, cells := 0, slots := 0, locals := 0 }) D k [.long a, .long b, .int w] [] sz (fun (r : Int64) (u : Unit) => r = A_lo a b w) (fun (u : Unit) => []) := by
  refine Met.ofW (cc := cX0_lowest) (maxL := 12) (ret := (some .long)) hpn_X0 rfl ?_
  intro p e s m args below meth c s₁ B hml hv
  obtain ⟨rfl, hsz, hP, hK, hD0, hN⟩ := hv
  have hx := B.exec
  have hb := B.bytes
  have hr := B.returns
  have hlocks := B.notSynchronized
  have hts := atoms_spec (ws := wsX0_lowest) B.pre
  have hown := findClass_of_methodNamed B.named
  have hown : s.vm.findClass RX0 = some m.cls := hown
  have kl25 := hts (.constantLong RX0 25 (-4)) (List.mem_cons_of_mem _ (hs_inG 3 196 rfl rfl))
  subst hsz
  have hD := hD0.self (sz := s.heap.size)
  generalize hAe : va_A [] s.heap.size = A at hD ⊢
  have hA : ∀ q : Nat, s.heap.size ≤ q → A q := fun q h => by rw [← hAe]; exact Or.inr h
  have hS : va_S A s.heap s.heap [] := va_S.rf
  have hl := lv_entry ([.long a, .long b, .int w]) (n := 12) (Nat.le_of_ble_eq_true rfl)
  rw [lg_entry_eq]
  generalize (lg_sl ([.long a, .long b, .int w]) ++ List.replicate (12 - (lg_sl ([.long a, .long b, .int w])).length) Slot.unset).toArray = ls at hl ⊢
  have hl : lv_has ls 12 [(0, .long a), (2, .long b), (4, .int w)] := hl
  have hP : va_P D vwCl [] s.heap := hP
  refine lv_lload_n hx hb dX0_lowest_0 rfl (lv_at hl 1 rfl) ?_
  refine lv_lstore (lv' := [(5, .long b), (0, .long a), (2, .long b), (4, .int w)]) hx hb dX0_lowest_1 hl (Nat.le_of_ble_eq_true rfl) rfl (fun ls hl => ?_)
  refine lv_lload_n hx hb dX0_lowest_3 rfl (lv_at hl 1 rfl) ?_
  refine lv_lstore (lv' := [(7, .long a), (5, .long b), (0, .long a), (2, .long b), (4, .int w)]) hx hb dX0_lowest_4 hl (Nat.le_of_ble_eq_true rfl) rfl (fun ls hl => ?_)
  refine lv_iconst (v := 0) hx hb dX0_lowest_6 hki_0 ?_
  refine lv_istore (lv' := [(9, .int 0), (7, .long a), (5, .long b), (0, .long a), (2, .long b), (4, .int w)]) hx hb dX0_lowest_7 hl (Nat.le_of_ble_eq_true rfl) rfl (fun ls hl => ?_)
  refine hs_while (σ := Int64 × Int64 × Nat) (fun x => x.2.2 ≤ 100 ∧ x.1 = (A_eu a b x.2.2).1 ∧ x.2.1 = (A_eu a b x.2.2).2 ∧ ∀ j, j < x.2.2 → ¬ (A_eu a b j).2 = 0) (fun x => 100 - x.2.2) (fun x => []) (fun x => [(9, .int (nI (x.2.2))), (7, .long (x.2.1)), (5, .long (x.1)), (0, .long a), (2, .long b), (4, .int w)]) ?_ (b, a, 0) ?_ hP hD hS hl
  · intro x hI ih9 H locs ls hP hD hS hl
    obtain ⟨co, re, i⟩ := x
    try dsimp only at hI
    have hP : va_P D vwCl [] H := hP
    have hD : va_D A [] := hD
    have hl : lv_has ls 12 [(9, .int (nI i)), (7, .long re), (5, .long co), (0, .long a), (2, .long b), (4, .int w)] := hl
    refine lv_iload hx hb dX0_lowest_9 (lv_at hl 0 rfl) ?_
    refine lv_bipush (v := 100) hx hb dX0_lowest_11 hkb_100 ?_
    refine lv_icmp_ge (tgt := 44) hx hb dX0_lowest_13 rfl (fun c_1 => ?_) (fun c_1 => ?_)
    · have nc_1 : 100 ≤ i := (nI_leI (a := 100) (b := i) (by omega) (by omega)).mp c_1
      refine lv_lload hx hb dX0_lowest_44 (lv_at hl 2 rfl) ?_
      refine lv_lconst (v := 0) hx hb dX0_lowest_46 (by decide) ?_
      refine W.lcmp hx hb dX0_lowest_47 ?_
      refine lv_if_ne (tgt := 55) hx hb dX0_lowest_48 rfl (fun c_2 => ?_) (fun c_2 => ?_)
      · refine lv_iload hx hb dX0_lowest_55 (lv_at hl 5 rfl) ?_
        refine lv_if_ne (tgt := 67) hx hb dX0_lowest_57 rfl (fun c_3 => ?_) (fun c_3 => ?_)
        · refine lv_lload_n hx hb dX0_lowest_67 rfl (lv_at hl 4 rfl) ?_
          refine lv_lload hx hb dX0_lowest_68 (lv_at hl 2 rfl) ?_
          refine lv_ldiv hx hb dX0_lowest_70 (fun h => c_2 ((lg_cmp_eq _ _).mpr h)) ?_
          exact hs_lret hx hb hr hlocks hK hP hD hS () [] rfl (hs_upnd rfl) dX0_lowest_71 ((A_eu_e ha40 (fun j9 h9 => hI.2.2.2 j9 (by omega))).elim)
        · refine lv_lload_n hx hb dX0_lowest_60 rfl (lv_at hl 3 rfl) ?_
          refine lv_lload hx hb dX0_lowest_61 (lv_at hl 2 rfl) ?_
          refine lv_ldiv hx hb dX0_lowest_63 (fun h => c_2 ((lg_cmp_eq _ _).mpr h)) ?_
          refine lv_goto (tgt := 71) hx hb dX0_lowest_64 rfl ?_
          exact hs_lret hx hb hr hlocks hK hP hD hS () [] rfl (hs_upnd rfl) dX0_lowest_71 ((A_eu_e ha40 (fun j9 h9 => hI.2.2.2 j9 (by omega))).elim)
      · refine lv_ldc2 hx hb hown kl25 dX0_lowest_51 ?_
        exact hs_lret hx hb hr hlocks hK hP hD hS () [] rfl (hs_upnd rfl) dX0_lowest_54 ((A_eu_e ha40 (fun j9 h9 => hI.2.2.2 j9 (by omega))).elim)
    · have nc_1 : ¬ 100 ≤ i := fun hq9 => c_1 ((nI_leI (a := 100) (b := i) (by omega) (by omega)).mpr hq9)
      refine lv_lload hx hb dX0_lowest_16 (lv_at hl 1 rfl) ?_
      refine lv_lconst (v := 0) hx hb dX0_lowest_18 (by decide) ?_
      refine W.lcmp hx hb dX0_lowest_19 ?_
      refine lv_if_eq (tgt := 44) hx hb dX0_lowest_20 rfl (fun c_4 => ?_) (fun c_4 => ?_)
      · refine lv_lload hx hb dX0_lowest_44 (lv_at hl 2 rfl) ?_
        refine lv_lconst (v := 0) hx hb dX0_lowest_46 (by decide) ?_
        refine W.lcmp hx hb dX0_lowest_47 ?_
        refine lv_if_ne (tgt := 55) hx hb dX0_lowest_48 rfl (fun c_5 => ?_) (fun c_5 => ?_)
        · refine lv_iload hx hb dX0_lowest_55 (lv_at hl 5 rfl) ?_
          refine lv_if_ne (tgt := 67) hx hb dX0_lowest_57 rfl (fun c_6 => ?_) (fun c_6 => ?_)
          · refine lv_lload_n hx hb dX0_lowest_67 rfl (lv_at hl 4 rfl) ?_
            refine lv_lload hx hb dX0_lowest_68 (lv_at hl 2 rfl) ?_
            refine lv_ldiv hx hb dX0_lowest_70 (fun h => c_5 ((lg_cmp_eq _ _).mpr h)) ?_
            exact hs_lret hx hb hr hlocks hK hP hD hS () [] rfl (hs_upnd rfl) dX0_lowest_71 ((by rw [A_lo, if_neg c_6, ← (A_eu_x hlo hup hI.2.1 hI.2.2.1 hI.2.2.2 ((lg_cmp_eq _ _).mp c_4))]))
          · refine lv_lload_n hx hb dX0_lowest_60 rfl (lv_at hl 3 rfl) ?_
            refine lv_lload hx hb dX0_lowest_61 (lv_at hl 2 rfl) ?_
            refine lv_ldiv hx hb dX0_lowest_63 (fun h => c_5 ((lg_cmp_eq _ _).mpr h)) ?_
            refine lv_goto (tgt := 71) hx hb dX0_lowest_64 rfl ?_
            exact hs_lret hx hb hr hlocks hK hP hD hS () [] rfl (hs_upnd rfl) dX0_lowest_71 ((by rw [A_lo, if_pos c_6, ← (A_eu_x hlo hup hI.2.1 hI.2.2.1 hI.2.2.2 ((lg_cmp_eq _ _).mp c_4))]))
        · refine lv_ldc2 hx hb hown kl25 dX0_lowest_51 ?_
          exact hs_lret hx hb hr hlocks hK hP hD hS () [] rfl (hs_upnd rfl) dX0_lowest_54 ((absurd ((A_eu_x hlo hup hI.2.1 hI.2.2.1 hI.2.2.2 ((lg_cmp_eq _ _).mp c_4)).symm.trans ((lg_cmp_eq _ _).mp c_5)) (A_gI_ne hup)))
      · refine lv_lload hx hb dX0_lowest_23 (lv_at hl 2 rfl) ?_
        refine lv_lload hx hb dX0_lowest_25 (lv_at hl 1 rfl) ?_
        refine lv_lrem hx hb dX0_lowest_27 (fun h => c_4 ((lg_cmp_eq _ _).mpr h)) ?_
        refine lv_lstore (lv' := [(10, .long (co - co / re * re)), (9, .int (nI i)), (7, .long re), (5, .long co), (0, .long a), (2, .long b), (4, .int w)]) hx hb dX0_lowest_28 hl (Nat.le_of_ble_eq_true rfl) rfl (fun ls hl => ?_)
        refine lv_lload hx hb dX0_lowest_30 (lv_at hl 2 rfl) ?_
        refine lv_lstore (lv' := [(5, .long re), (10, .long (co - co / re * re)), (9, .int (nI i)), (7, .long re), (0, .long a), (2, .long b), (4, .int w)]) hx hb dX0_lowest_32 hl (Nat.le_of_ble_eq_true rfl) rfl (fun ls hl => ?_)
        refine lv_lload hx hb dX0_lowest_34 (lv_at hl 1 rfl) ?_
        refine lv_lstore (lv' := [(7, .long (co - co / re * re)), (5, .long re), (10, .long (co - co / re * re)), (9, .int (nI i)), (0, .long a), (2, .long b), (4, .int w)]) hx hb dX0_lowest_36 hl (Nat.le_of_ble_eq_true rfl) rfl (fun ls hl => ?_)
        refine lv_iinc (v := nI (i + 1)) (lv' := [(9, .int (nI (i + 1))), (7, .long (co - co / re * re)), (5, .long re), (10, .long (co - co / re * re)), (0, .long a), (2, .long b), (4, .int w)]) hx hb dX0_lowest_38 hl (k := 3) rfl (nI_add (i) 1) (Nat.le_of_ble_eq_true rfl) rfl (fun ls hl => ?_)
        refine lv_goto (tgt := 9) hx hb dX0_lowest_41 rfl ?_
        exact ih9 (re, co - co / re * re, i + 1) (by (try dsimp only); exact ⟨by omega, A_eu_st hI.2.1 hI.2.2.1 hI.2.2.2 (fun h9 => c_4 ((lg_cmp_eq _ _).mpr h9))⟩) (by (try dsimp only); omega) _ _ _ hP hD hS (lv_sub hl [0, 1, 2, 4, 5, 6] rfl)
  · (try dsimp only); exact ⟨Nat.zero_le _, rfl, rfl, fun j hj => absurd hj (Nat.not_lt_zero j)⟩

set_option maxHeartbeats 4000000 in
set_option maxRecDepth 100000 in
theorem gf_expected (l : Launch) (D : va_G) (k : Nat → ClassId) (sz : Nat) (vz : Nat) (jm : Nat) (n : Nat) (w : Int32) (hn : n ≤ 4) (hvz : vz < 11) (hjm : jm < 2 ^ n) : ML l yX0_expected wsX0_expected ({ frames := 1, cells := 0, slots := 0, locals := 31 }) D k [.int (nI vz), .int (nI jm), .int (nI n), .int w] [] sz (fun (r : Int64) (u : Unit) => r = A_lo (A_tq (nI vz) (nI jm) n) 10 w) (fun (u : Unit) => []) := by
  refine Met.ofW (cc := cX0_expected) (maxL := 7) (ret := (some .long)) hpn_X0 rfl ?_
  intro p e s m args below meth c s₁ B hml hv
  obtain ⟨rfl, hsz, hP, hK, hD0, hN⟩ := hv
  have hx := B.exec
  have hb := B.bytes
  have hr := B.returns
  have hlocks := B.notSynchronized
  have hts := atoms_spec (ws := wsX0_expected) B.pre
  have hown := findClass_of_methodNamed B.named
  have hown : s.vm.findClass RX0 = some m.cls := hown
  have kl19 := hts (.constantLong RX0 19 (10)) (List.mem_cons_of_mem _ (hs_inG 3 192 rfl rfl))
  subst hsz
  have hD := hD0.self (sz := s.heap.size)
  generalize hAe : va_A [] s.heap.size = A at hD ⊢
  have hA : ∀ q : Nat, s.heap.size ≤ q → A q := fun q h => by rw [← hAe]; exact Or.inr h
  have hS : va_S A s.heap s.heap [] := va_S.rf
  have hl := lv_entry ([.int (nI vz), .int (nI jm), .int (nI n), .int w]) (n := 7) (Nat.le_of_ble_eq_true rfl)
  rw [lg_entry_eq]
  generalize (lg_sl ([.int (nI vz), .int (nI jm), .int (nI n), .int w]) ++ List.replicate (7 - (lg_sl ([.int (nI vz), .int (nI jm), .int (nI n), .int w])).length) Slot.unset).toArray = ls at hl ⊢
  have hl : lv_has ls 7 [(0, .int (nI vz)), (1, .int (nI jm)), (2, .int (nI n)), (3, .int w)] := hl
  have hP : va_P D vwCl [] s.heap := hP
  refine lv_lconst (v := 0) hx hb dX0_expected_0 (by decide) ?_
  refine lv_lstore (lv' := [(4, .long 0), (0, .int (nI vz)), (1, .int (nI jm)), (2, .int (nI n)), (3, .int w)]) hx hb dX0_expected_1 hl (Nat.le_of_ble_eq_true rfl) rfl (fun ls hl => ?_)
  refine lv_iconst (v := 0) hx hb dX0_expected_3 hki_0 ?_
  refine lv_istore (lv' := [(6, .int 0), (4, .long 0), (0, .int (nI vz)), (1, .int (nI jm)), (2, .int (nI n)), (3, .int w)]) hx hb dX0_expected_4 hl (Nat.le_of_ble_eq_true rfl) rfl (fun ls hl => ?_)
  refine hs_while (σ := Int64 × Nat) (fun x => x.2 ≤ n ∧ x.1 = A_tq (nI vz) (nI jm) x.2) (fun x => n - x.2) (fun x => []) (fun x => [(6, .int (nI (x.2))), (4, .long (x.1)), (0, .int (nI vz)), (1, .int (nI jm)), (2, .int (nI n)), (3, .int w)]) ?_ (0, 0) ?_ hP hD hS hl
  · intro x hI ih6 H locs ls hP hD hS hl
    obtain ⟨tp, i⟩ := x
    try dsimp only at hI
    have hP : va_P D vwCl [] H := hP
    have hD : va_D A [] := hD
    have hl : lv_has ls 7 [(6, .int (nI i)), (4, .long tp), (0, .int (nI vz)), (1, .int (nI jm)), (2, .int (nI n)), (3, .int w)] := hl
    refine lv_iload hx hb dX0_expected_6 (lv_at hl 0 rfl) ?_
    refine lv_iload_n hx hb dX0_expected_8 rfl (lv_at hl 4 rfl) ?_
    refine lv_icmp_ge (tgt := 31) hx hb dX0_expected_9 rfl (fun c_1 => ?_) (fun c_1 => ?_)
    · have nc_1 : n ≤ i := (nI_leI (a := n) (b := i) (by omega) (by omega)).mp c_1
      have etp : tp = A_tq (nI vz) (nI jm) n := by rw [← show i = n by omega]; exact hI.2
      have hbd := cou_q n (by omega) vz hvz jm hjm
      refine lv_lload hx hb dX0_expected_31 (lv_at hl 1 rfl) ?_
      refine lv_ldc2 hx hb hown kl19 dX0_expected_33 ?_
      refine lv_iload_n hx hb dX0_expected_36 rfl (lv_at hl 5 rfl) ?_
      refine hs_pl (va_runS (As := [.long tp, .long 10, .int w]) (rest := []) ⟨hx, hb, hml, hown, hts⟩ (gf_lowest l D k _ tp 10 w (by rw [etp]; exact hbd.1) (by rw [etp]; exact hbd.2) (by decide)) (va_cwS 3 hts gX0_expected_X0_lowest rfl rfl rfl hq_X0_lowest ⟨Nat.le_of_ble_eq_true rfl, Nat.le_of_ble_eq_true rfl⟩) (hs_preS hK hN (hs_subP (w := []) hP [] rfl) (hD.sub (ws' := []) [] rfl rfl)) rfl rfl hl.1 rfl (lv_room (Nat.le_of_ble_eq_true rfl)) dX0_expected_37 ⟨Nat.le_of_ble_eq_true rfl, Nat.le_of_ble_eq_true rfl⟩) hP hD hS hA (fun r_2 u_4 H locs hw_3 hP hS => ?_)
      refine hs_topl (A_lo tp 10 w) hw_3 ?_
      exact hs_lret hx hb hr hlocks hK hP hD hS () [] rfl (hs_upnd rfl) dX0_expected_40 ((by rw [etp]))
    · have nc_1 : ¬ n ≤ i := fun hq9 => c_1 ((nI_leI (a := n) (b := i) (by omega) (by omega)).mpr hq9)
      refine lv_lload hx hb dX0_expected_12 (lv_at hl 1 rfl) ?_
      refine lv_iload_n hx hb dX0_expected_14 rfl (lv_at hl 2 rfl) ?_
      refine lv_iload_n hx hb dX0_expected_15 rfl (lv_at hl 3 rfl) ?_
      refine lv_iload hx hb dX0_expected_16 (lv_at hl 0 rfl) ?_
      refine hs_pi (va_runS (As := [.int (nI vz), .int (nI jm), .int (nI i)]) (rest := [.long tp]) ⟨hx, hb, hml, hown, hts⟩ (gf_saysJust l D k _ (nI vz) (nI jm) i) (va_cwS 3 hts gX0_expected_X0_saysJust rfl rfl rfl hq_X0_saysJust ⟨Nat.le_of_ble_eq_true rfl, Nat.le_of_ble_eq_true rfl⟩) (hs_preS hK hN (hs_subP (w := []) hP [] rfl) (hD.sub (ws' := []) [] rfl rfl)) rfl rfl hl.1 rfl (lv_room (Nat.le_of_ble_eq_true rfl)) dX0_expected_18 ⟨Nat.le_of_ble_eq_true rfl, Nat.le_of_ble_eq_true rfl⟩) hP hD hS hA (fun r_5 u_7 H locs hw_6 hP hS => ?_)
      refine hs_topi (A_sj (nI vz) (nI jm) i) hw_6 ?_
      refine lv_i2l hx hb dX0_expected_21 rfl ?_
      refine lv_ladd hx hb dX0_expected_22 ?_
      refine lv_lstore (lv' := [(4, .long (tp + (((A_sj (nI vz) (nI jm) i) : Int32).toInt64))), (6, .int (nI i)), (0, .int (nI vz)), (1, .int (nI jm)), (2, .int (nI n)), (3, .int w)]) hx hb dX0_expected_23 hl (Nat.le_of_ble_eq_true rfl) rfl (fun ls hl => ?_)
      refine lv_iinc (v := nI (i + 1)) (lv' := [(6, .int (nI (i + 1))), (4, .long (tp + (((A_sj (nI vz) (nI jm) i) : Int32).toInt64))), (0, .int (nI vz)), (1, .int (nI jm)), (2, .int (nI n)), (3, .int w)]) hx hb dX0_expected_25 hl (k := 1) rfl (nI_add (i) 1) (Nat.le_of_ble_eq_true rfl) rfl (fun ls hl => ?_)
      refine lv_goto (tgt := 6) hx hb dX0_expected_28 rfl ?_
      exact ih6 (tp + (((A_sj (nI vz) (nI jm) i) : Int32).toInt64), i + 1) (by (try dsimp only); exact ⟨by omega, by rw [hI.2]; (try rfl)⟩) (by (try dsimp only); omega) _ _ _ hP hD hS (lv_sub hl [0, 1, 2, 3, 4, 5] rfl)
  · (try dsimp only); exact ⟨Nat.zero_le _, rfl⟩

set_option maxHeartbeats 4000000 in
set_option maxRecDepth 100000 in
theorem gr_common (l : Launch) (D : va_G) (k : Nat → ClassId) (sz : Nat) (a : Int64) (b : Int64) (hov : 0 ≤ b.toInt) (hun : 0 < a.toInt) : ML l yX8_common wsX8_common ({ frames := 0, cells := 0, slots := 0, locals := 0 }) D k [.long a, .long b] [] sz (fun (r : Int64) (u : Unit) => r = A_gI b a) (fun (u : Unit) => []) := by
  refine Met.ofW (cc := cX8_common) (maxL := 10) (ret := (some .long)) hpn_X8 rfl ?_
  intro p e s m args below meth c s₁ B hml hv
  obtain ⟨rfl, hsz, hP, hK, hD0, hN⟩ := hv
  have hx := B.exec
  have hb := B.bytes
  have hr := B.returns
  have hlocks := B.notSynchronized
  have hts := atoms_spec (ws := wsX8_common) B.pre
  have hown := findClass_of_methodNamed B.named
  have hown : s.vm.findClass RX8 = some m.cls := hown
  subst hsz
  have hD := hD0.self (sz := s.heap.size)
  generalize hAe : va_A [] s.heap.size = A at hD ⊢
  have hA : ∀ q : Nat, s.heap.size ≤ q → A q := fun q h => by rw [← hAe]; exact Or.inr h
  have hS : va_S A s.heap s.heap [] := va_S.rf
  have hl := lv_entry ([.long a, .long b]) (n := 10) (Nat.le_of_ble_eq_true rfl)
  rw [lg_entry_eq]
  generalize (lg_sl ([.long a, .long b]) ++ List.replicate (10 - (lg_sl ([.long a, .long b])).length) Slot.unset).toArray = ls at hl ⊢
  have hl : lv_has ls 10 [(0, .long a), (2, .long b)] := hl
  have hP : va_P D vwCl [] s.heap := hP
  refine lv_lload_n hx hb dX8_common_0 rfl (lv_at hl 0 rfl) ?_
  refine lv_lstore (lv' := [(4, .long a), (0, .long a), (2, .long b)]) hx hb dX8_common_1 hl (Nat.le_of_ble_eq_true rfl) rfl (fun ls hl => ?_)
  refine lv_lload_n hx hb dX8_common_3 rfl (lv_at hl 2 rfl) ?_
  refine lv_lstore (lv' := [(6, .long b), (4, .long a), (0, .long a), (2, .long b)]) hx hb dX8_common_4 hl (Nat.le_of_ble_eq_true rfl) rfl (fun ls hl => ?_)
  refine hs_while (σ := Int64 × Int64) (fun x => ∃ i9 : Nat, x.1 = (A_eu b a i9).1 ∧ x.2 = (A_eu b a i9).2 ∧ ∀ j, j < i9 → ¬ (A_eu b a j).2 = 0) (fun x => x.2.toInt.natAbs) (fun x => []) (fun x => [(6, .long (x.2)), (4, .long (x.1)), (0, .long a), (2, .long b)]) ?_ (a, b) ?_ hP hD hS hl
  · intro x hI ih6 H locs ls hP hD hS hl
    obtain ⟨xx, yy⟩ := x
    try dsimp only at hI
    have hP : va_P D vwCl [] H := hP
    have hD : va_D A [] := hD
    have hl : lv_has ls 10 [(6, .long yy), (4, .long xx), (0, .long a), (2, .long b)] := hl
    refine lv_lload hx hb dX8_common_6 (lv_at hl 0 rfl) ?_
    refine lv_lconst (v := 0) hx hb dX8_common_8 (by decide) ?_
    refine W.lcmp hx hb dX8_common_9 ?_
    refine lv_if_eq (tgt := 31) hx hb dX8_common_10 rfl (fun c_1 => ?_) (fun c_1 => ?_)
    · refine lv_lload hx hb dX8_common_31 (lv_at hl 1 rfl) ?_
      exact hs_lret hx hb hr hlocks hK hP hD hS () [] rfl (hs_upnd rfl) dX8_common_33 ((by obtain ⟨i9, z1, z2, z3⟩ := hI; exact A_eu_x hov hun z1 z2 z3 ((lg_cmp_eq _ _).mp c_1)))
    · refine lv_lload hx hb dX8_common_13 (lv_at hl 1 rfl) ?_
      refine lv_lload hx hb dX8_common_15 (lv_at hl 0 rfl) ?_
      refine lv_lrem hx hb dX8_common_17 (fun h => c_1 ((lg_cmp_eq _ _).mpr h)) ?_
      refine lv_lstore (lv' := [(8, .long (xx - xx / yy * yy)), (6, .long yy), (4, .long xx), (0, .long a), (2, .long b)]) hx hb dX8_common_18 hl (Nat.le_of_ble_eq_true rfl) rfl (fun ls hl => ?_)
      refine lv_lload hx hb dX8_common_20 (lv_at hl 1 rfl) ?_
      refine lv_lstore (lv' := [(4, .long yy), (8, .long (xx - xx / yy * yy)), (6, .long yy), (0, .long a), (2, .long b)]) hx hb dX8_common_22 hl (Nat.le_of_ble_eq_true rfl) rfl (fun ls hl => ?_)
      refine lv_lload hx hb dX8_common_24 (lv_at hl 1 rfl) ?_
      refine lv_lstore (lv' := [(6, .long (xx - xx / yy * yy)), (4, .long yy), (8, .long (xx - xx / yy * yy)), (0, .long a), (2, .long b)]) hx hb dX8_common_26 hl (Nat.le_of_ble_eq_true rfl) rfl (fun ls hl => ?_)
      refine lv_goto (tgt := 6) hx hb dX8_common_28 rfl ?_
      exact ih6 (yy, xx - xx / yy * yy) (by (try dsimp only); obtain ⟨i9, z1, z2, z3⟩ := hI; exact ⟨i9 + 1, A_eu_st z1 z2 z3 (fun h => c_1 ((lg_cmp_eq _ _).mpr h))⟩) (by (try dsimp only); exact hs_rem64 (fun h => c_1 ((lg_cmp_eq _ _).mpr h))) _ _ _ hP hD hS (lv_sub hl [0, 1, 3, 4] rfl)
  · (try dsimp only); exact ⟨0, rfl, rfl, fun j hj => absurd hj (Nat.not_lt_zero j)⟩

set_option maxHeartbeats 4000000 in
set_option maxRecDepth 100000 in
theorem gr_told (l : Launch) (D : va_G) (k : Nat → ClassId) (sz : Nat) (a : Int64) (b : Int64) (what : Int32) (hov : 0 ≤ a.toInt) (hun : 0 < b.toInt) : ML l yX8_told wsX8_told ({ frames := 1, cells := 0, slots := 0, locals := 29 }) D k [.long a, .long b, .int what] [] sz (fun (r : Int64) (u : Unit) => r = A_lo a b what) (fun (u : Unit) => []) := by
  refine Met.ofW (cc := cX8_told) (maxL := 7) (ret := (some .long)) hpn_X8 rfl ?_
  intro p e s m args below meth c s₁ B hml hv
  obtain ⟨rfl, hsz, hP, hK, hD0, hN⟩ := hv
  have hx := B.exec
  have hb := B.bytes
  have hr := B.returns
  have hlocks := B.notSynchronized
  have hts := atoms_spec (ws := wsX8_told) B.pre
  have hown := findClass_of_methodNamed B.named
  have hown : s.vm.findClass RX8 = some m.cls := hown
  subst hsz
  have hD := hD0.self (sz := s.heap.size)
  generalize hAe : va_A [] s.heap.size = A at hD ⊢
  have hA : ∀ q : Nat, s.heap.size ≤ q → A q := fun q h => by rw [← hAe]; exact Or.inr h
  have hS : va_S A s.heap s.heap [] := va_S.rf
  have hl := lv_entry ([.long a, .long b, .int what]) (n := 7) (Nat.le_of_ble_eq_true rfl)
  rw [lg_entry_eq]
  generalize (lg_sl ([.long a, .long b, .int what]) ++ List.replicate (7 - (lg_sl ([.long a, .long b, .int what])).length) Slot.unset).toArray = ls at hl ⊢
  have hl : lv_has ls 7 [(0, .long a), (2, .long b), (4, .int what)] := hl
  have hP : va_P D vwCl [] s.heap := hP
  refine lv_lload_n hx hb dX8_told_0 rfl (lv_at hl 1 rfl) ?_
  refine lv_lload_n hx hb dX8_told_1 rfl (lv_at hl 0 rfl) ?_
  refine hs_pl (va_runS (As := [.long b, .long a]) (rest := []) ⟨hx, hb, hml, hown, hts⟩ (gr_common l D k _ b a (by assumption) (by assumption)) (va_cwS 2 hts gX8_told_X8_common rfl rfl rfl hq_X8_common ⟨Nat.le_of_ble_eq_true rfl, Nat.le_of_ble_eq_true rfl⟩) (hs_preS hK hN (hs_subP (w := []) hP [] rfl) (hD.sub (ws' := []) [] rfl rfl)) rfl rfl hl.1 rfl (lv_room (Nat.le_of_ble_eq_true rfl)) dX8_told_2 ⟨Nat.le_of_ble_eq_true rfl, Nat.le_of_ble_eq_true rfl⟩) hP hD hS hA (fun r_1 u_3 H locs hw_2 hP hS => ?_)
  refine hs_topl (A_gI a b) hw_2 ?_
  refine lv_lstore (lv' := [(5, .long (A_gI a b)), (0, .long a), (2, .long b), (4, .int what)]) hx hb dX8_told_5 hl (Nat.le_of_ble_eq_true rfl) rfl (fun ls hl => ?_)
  refine lv_iload hx hb dX8_told_7 (lv_at hl 3 rfl) ?_
  refine lv_if_ne (tgt := 19) hx hb dX8_told_9 rfl (fun c_4 => ?_) (fun c_4 => ?_)
  · refine lv_lload_n hx hb dX8_told_19 rfl (lv_at hl 2 rfl) ?_
    refine lv_lload hx hb dX8_told_20 (lv_at hl 0 rfl) ?_
    refine lv_ldiv hx hb dX8_told_22 (A_gI_ne hun) ?_
    exact hs_lret hx hb hr hlocks hK hP hD hS () [] rfl (hs_upnd rfl) dX8_told_23 ((by rw [A_lo, if_neg c_4]))
  · refine lv_lload_n hx hb dX8_told_12 rfl (lv_at hl 1 rfl) ?_
    refine lv_lload hx hb dX8_told_13 (lv_at hl 0 rfl) ?_
    refine lv_ldiv hx hb dX8_told_15 (A_gI_ne hun) ?_
    refine lv_goto (tgt := 23) hx hb dX8_told_16 rfl ?_
    exact hs_lret hx hb hr hlocks hK hP hD hS () [] rfl (hs_upnd rfl) dX8_told_23 ((by rw [A_lo, if_pos c_4]))

set_option maxHeartbeats 4000000 in
set_option maxRecDepth 100000 in
theorem gr_findCourt (l : Launch) (D : va_G) (k : Nat → ClassId) (sz : Nat) (mo : Nat) (mo_st : Nat) (mo_at : Nat) (mo_isKept : Nat) (mo_pe : Nat) (mo_hm : Nat) (mo_draft : Nat) (mo_dp : Nat) (mo_dh : Nat) (mo_toldLines : Int32) (mo_highest : Int32) (mo_tape : Nat) (mo_tl : Nat) (mo_ps : Nat) (mo_fr : Nat) (mo_sort : Int32) (mo_value : Int32) (mo_ft : Nat) (mo_wrongAt : Int32) (mo_row : Nat) (mo_orderMany : Int32) (mo_fo : Nat) (mo_lightest : Int32) (mo_heaviest : Int32) (mo_before : Nat) (mo_justSum : Int64) (mo_toldSum : Int64) (mo_allWays : Int64) (mo_lanes : Nat) (mo_sizes : Nat) (mo_cells : Nat) (mo_torn : Int32) (mo_had : Nat) (sf : Nat → Int32) (c0 : Nat) (c3 : Nat) (c4 : Nat) (af : Nat → Int32) (v : Int32) (kk : Int32) (e0 : sf 0 = nI c0) (h0 : c0 ≤ 8) (h02 : 2 ≤ c0) (e3 : sf 16 = nI c3) (h3 : c3 ≤ 8) (e4 : sf 25 = nI c4) (h4 : c4 ≤ 6) (hpe : mo_pe ≤ 4) (hm2 : 2 ≤ mo_hm) (hm5 : mo_hm ≤ 5) : MV l yX8_findCourt wsX8_findCourt ({ frames := 5, cells := 0, slots := 0, locals := 116 }) D k [.ref mo, .int v, .int kk] [oq7 mo mo_st mo_at mo_isKept (nI mo_pe) (nI mo_hm) mo_draft (nI mo_dp) (nI mo_dh) mo_toldLines mo_highest mo_tape (nI mo_tl) (nI mo_ps) (nI mo_fr) mo_sort mo_value (nI mo_ft) mo_wrongAt mo_row mo_orderMany (nI mo_fo) mo_lightest mo_heaviest mo_before mo_justSum mo_toldSum mo_allWays mo_lanes mo_sizes mo_cells mo_torn mo_had, oqI k mo_st 132 (sf), oqI k mo_at 44 (af)] sz (fun (u : (Nat → Int32) × Int64 × Int64 × Int64) => u.2.1 = A_jS v (A_jt (A_vfm c0 sf kk) mo_pe) mo_pe (2 ^ mo_pe) ∧ u.2.2.1 = A_tS v (A_jt (A_vfm c0 sf kk) mo_pe) mo_pe (2 ^ mo_pe) ∧ u.2.2.2 = (hspw 10 mo_pe).toInt64) (fun (u : (Nat → Int32) × Int64 × Int64 × Int64) => [oq7 mo mo_st mo_at mo_isKept (nI mo_pe) (nI mo_hm) mo_draft (nI mo_dp) (nI mo_dh) mo_toldLines mo_highest mo_tape (nI mo_tl) (nI mo_ps) (nI mo_fr) mo_sort mo_value (nI mo_ft) mo_wrongAt mo_row mo_orderMany (nI mo_fo) mo_lightest mo_heaviest mo_before u.2.1 u.2.2.1 u.2.2.2 mo_lanes mo_sizes mo_cells mo_torn mo_had, oqI k mo_st 132 (sf), oqI k mo_at 44 (u.1)]) := by
  refine Met.ofW (cc := cX8_findCourt) (maxL := 8) (ret := none) hpn_X8 rfl ?_
  intro p e s m args below meth c s₁ B hml hv
  obtain ⟨rfl, hsz, hP, hK, hD0, hN⟩ := hv
  have hx := B.exec
  have hb := B.bytes
  have hr := B.returns
  have hlocks := B.notSynchronized
  have hts := atoms_spec (ws := wsX8_findCourt) B.pre
  have hown := findClass_of_methodNamed B.named
  have hown : s.vm.findClass RX8 = some m.cls := hown
  have hiX8 : ∀ w ∈ u_ws RX8 TX8 32, w ∈ wsX8_findCourt := fun w9 hw9 => List.mem_cons_of_mem _ (igX8 w9 hw9)
  have fl249 := hts (.fieldLink RX8 249 "HalfScalesModel" "justSum" "J") (List.mem_cons_of_mem _ (hs_inG 4 104 rfl rfl))
  have fl253 := hts (.fieldLink RX8 253 "HalfScalesModel" "toldSum" "J") (List.mem_cons_of_mem _ (hs_inG 4 105 rfl rfl))
  have fl63 := hts (.fieldLink RX8 63 "HalfScalesModel" "people" "I") (List.mem_cons_of_mem _ (hs_inG 4 83 rfl rfl))
  have fl256 := hts (.fieldLink RX8 256 "HalfScalesModel" "allWays" "J") (List.mem_cons_of_mem _ (hs_inG 4 106 rfl rfl))
  have hpw : 2 ^ mo_pe ≤ 16 := Nat.le_trans (Nat.pow_le_pow_right (n := 2) (by decide) hpe) (by decide)
  subst hsz
  have hD := hD0.self (sz := s.heap.size)
  generalize hAe : va_A [oq7 mo mo_st mo_at mo_isKept (nI mo_pe) (nI mo_hm) mo_draft (nI mo_dp) (nI mo_dh) mo_toldLines mo_highest mo_tape (nI mo_tl) (nI mo_ps) (nI mo_fr) mo_sort mo_value (nI mo_ft) mo_wrongAt mo_row mo_orderMany (nI mo_fo) mo_lightest mo_heaviest mo_before mo_justSum mo_toldSum mo_allWays mo_lanes mo_sizes mo_cells mo_torn mo_had, oqI k mo_st 132 (sf), oqI k mo_at 44 (af)] s.heap.size = A at hD ⊢
  have hA : ∀ q : Nat, s.heap.size ≤ q → A q := fun q h => by rw [← hAe]; exact Or.inr h
  have hS : va_S A s.heap s.heap [] := va_S.rf
  have hl := lv_entry ([.ref mo, .int v, .int kk]) (n := 8) (Nat.le_of_ble_eq_true rfl)
  rw [lg_entry_eq]
  generalize (lg_sl ([.ref mo, .int v, .int kk]) ++ List.replicate (8 - (lg_sl ([.ref mo, .int v, .int kk])).length) Slot.unset).toArray = ls at hl ⊢
  have hl : lv_has ls 8 [(0, .ref mo), (1, .int v), (2, .int kk)] := hl
  have hP : va_P D vwCl [oq7 mo mo_st mo_at mo_isKept (nI mo_pe) (nI mo_hm) mo_draft (nI mo_dp) (nI mo_dh) mo_toldLines mo_highest mo_tape (nI mo_tl) (nI mo_ps) (nI mo_fr) mo_sort mo_value (nI mo_ft) mo_wrongAt mo_row mo_orderMany (nI mo_fo) mo_lightest mo_heaviest mo_before mo_justSum mo_toldSum mo_allWays mo_lanes mo_sizes mo_cells mo_torn mo_had, oqI k mo_st 132 (sf), oqI k mo_at 44 (af)] s.heap := hP
  refine lv_aload_n hx hb dX8_findCourt_0 rfl (lv_at hl 0 rfl) ?_
  refine hs_cvM (va_runV (As := []) (rest := []) ⟨hx, hb, hml, hown, hts⟩ (gm_starts l D k _ mo mo_st mo_at mo_isKept mo_pe mo_hm mo_draft mo_dp mo_dh mo_toldLines mo_highest mo_tape mo_tl mo_ps mo_fr mo_sort mo_value mo_ft mo_wrongAt mo_row mo_orderMany mo_fo mo_lightest mo_heaviest mo_before mo_justSum mo_toldSum mo_allWays mo_lanes mo_sizes mo_cells mo_torn mo_had sf af) (cwV 0 hts gX8_findCourt_X8_starts rfl rfl rfl ⟨rfl, hq_X8_starts⟩ ⟨Nat.le_of_ble_eq_true rfl, Nat.le_of_ble_eq_true rfl⟩) (hs_preV hK hN (hs_subP (w := [_, _, _]) hP [0, 1, 2] rfl) (hD.sub (ws' := [_, _, _]) [0, 1, 2] (hs_upnd rfl) rfl) (ci := 7) (q0 := 0) rfl rfl) rfl rfl hl.1 rfl (lv_room (Nat.le_of_ble_eq_true rfl)) dX8_findCourt_1 ⟨Nat.le_of_ble_eq_true rfl, Nat.le_of_ble_eq_true rfl⟩) hP hD hS hA [false, false, false] [] [_, _, _] rfl [0, 1, 2] rfl [0, 1, 2] (fun u_3 => [_, _, _]) (fun _ => rfl) (hs_upnd rfl) [false, false, false] (fun u_3 => [_, _, _]) (fun _ => rfl) (fun u_3 H locs hw_2 hP hD hS => ?_)
  have hw_2 : ∀ j, j < 44 → u_3 j = sf j := hw_2
  have e0a : u_3 0 = nI c0 := (hw_2 0 (by decide)).trans e0
  have e3a : u_3 16 = nI c3 := (hw_2 16 (by decide)).trans e3
  have e4a : u_3 25 = nI c4 := (hw_2 25 (by decide)).trans e4
  have hw_2 : ∀ j, j < 44 → u_3 j = sf j := hw_2
  refine lv_aload_n hx hb dX8_findCourt_4 rfl (lv_at hl 0 rfl) ?_
  refine lv_iload_n hx hb dX8_findCourt_5 rfl (lv_at hl 2 rfl) ?_
  obtain ⟨jx, hjx, ejx⟩ := A_jtb (v := A_vfm c0 sf kk) mo_pe (by omega)
  refine hs_ciM (va_runV (As := [.int kk]) (rest := []) ⟨hx, hb, hml, hown, hts⟩ (gr_justTo l D k _ mo mo_st mo_at mo_isKept mo_pe mo_hm mo_draft mo_dp mo_dh mo_toldLines mo_highest mo_tape mo_tl mo_ps mo_fr mo_sort mo_value mo_ft mo_wrongAt mo_row mo_orderMany mo_fo mo_lightest mo_heaviest mo_before mo_justSum mo_toldSum mo_allWays mo_lanes mo_sizes mo_cells mo_torn mo_had u_3 c0 kk (by first | exact e0a | exact e0) (by omega) (by omega)) (cwV 1 hts gX8_findCourt_X8_justTo rfl rfl rfl ⟨rfl, hq_X8_justTo⟩ ⟨Nat.le_of_ble_eq_true rfl, Nat.le_of_ble_eq_true rfl⟩) (hs_preV hK hN (hs_subP (w := [_, _]) hP [0, 2] rfl) (hD.sub (ws' := [_, _]) [0, 2] (hs_upnd rfl) rfl) (ci := 7) (q0 := 0) rfl rfl) rfl rfl hl.1 rfl (lv_room (Nat.le_of_ble_eq_true rfl)) dX8_findCourt_6 ⟨Nat.le_of_ble_eq_true rfl, Nat.le_of_ble_eq_true rfl⟩) hP hD hS hA [false, true, false] [_] [_, _] rfl [0, 1] rfl [0, 1] (fun u_6 => [_, _]) (fun _ => rfl) (hs_upnd rfl) [false, true, false] (fun u_6 => [_, _, _]) (fun _ => rfl) (fun r_4 u_6 H locs hw_5 hP hD hS => ?_)
  refine hs_topi (A_jt (A_vfm c0 u_3 kk) mo_pe) hw_5 ?_
  refine hs_topi (nI jx) ((A_jt_congr mo_pe (fun q hq => A_vfm_congr (show c0 ≤ 8 by omega) (fun x9 h9 => hw_2 x9 (by omega)) q (by omega))).trans ejx) ?_
  refine lv_istore_n (lv' := [(3, .int (nI jx)), (0, .ref mo), (1, .int v), (2, .int kk)]) hx hb dX8_findCourt_9 rfl hl (Nat.le_of_ble_eq_true rfl) rfl (fun ls hl => ?_)
  refine lv_aload_n hx hb dX8_findCourt_10 rfl (lv_at hl 1 rfl) ?_
  refine lv_lconst (v := 0) hx hb dX8_findCourt_11 (by decide) ?_
  refine va_put (D := D) (ci := 7) (v := .long 0) (ty := .long) (C := RX8) (T := TX8) (N := 32) hx hb hts hiX8 tyX8 tyX8_ok nmX8 hown hK hP hD hS 0 rfl rfl 24 (Nat.le_of_ble_eq_true rfl) fl249 (fun _ h9 => h9) rfl (by decide +kernel) rfl rfl (Nat.le_of_ble_eq_true rfl) dX8_findCourt_12 (fun H locs hP hD hS => ?_)
  have hP : va_P D vwCl [oq7 mo mo_st mo_at mo_isKept (nI mo_pe) (nI mo_hm) mo_draft (nI mo_dp) (nI mo_dh) mo_toldLines mo_highest mo_tape (nI mo_tl) (nI mo_ps) (nI mo_fr) mo_sort mo_value (nI mo_ft) mo_wrongAt mo_row mo_orderMany (nI mo_fo) mo_lightest mo_heaviest mo_before 0 mo_toldSum mo_allWays mo_lanes mo_sizes mo_cells mo_torn mo_had, _, _] H := hP
  have hD : va_D A [oq7 mo mo_st mo_at mo_isKept (nI mo_pe) (nI mo_hm) mo_draft (nI mo_dp) (nI mo_dh) mo_toldLines mo_highest mo_tape (nI mo_tl) (nI mo_ps) (nI mo_fr) mo_sort mo_value (nI mo_ft) mo_wrongAt mo_row mo_orderMany (nI mo_fo) mo_lightest mo_heaviest mo_before 0 mo_toldSum mo_allWays mo_lanes mo_sizes mo_cells mo_torn mo_had, _, _] := hD
  refine lv_aload_n hx hb dX8_findCourt_15 rfl (lv_at hl 1 rfl) ?_
  refine lv_lconst (v := 0) hx hb dX8_findCourt_16 (by decide) ?_
  refine va_put (D := D) (ci := 7) (v := .long 0) (ty := .long) (C := RX8) (T := TX8) (N := 32) hx hb hts hiX8 tyX8 tyX8_ok nmX8 hown hK hP hD hS 0 rfl rfl 25 (Nat.le_of_ble_eq_true rfl) fl253 (fun _ h9 => h9) rfl (by decide +kernel) rfl rfl (Nat.le_of_ble_eq_true rfl) dX8_findCourt_17 (fun H locs hP hD hS => ?_)
  have hP : va_P D vwCl [oq7 mo mo_st mo_at mo_isKept (nI mo_pe) (nI mo_hm) mo_draft (nI mo_dp) (nI mo_dh) mo_toldLines mo_highest mo_tape (nI mo_tl) (nI mo_ps) (nI mo_fr) mo_sort mo_value (nI mo_ft) mo_wrongAt mo_row mo_orderMany (nI mo_fo) mo_lightest mo_heaviest mo_before 0 0 mo_allWays mo_lanes mo_sizes mo_cells mo_torn mo_had, _, _] H := hP
  have hD : va_D A [oq7 mo mo_st mo_at mo_isKept (nI mo_pe) (nI mo_hm) mo_draft (nI mo_dp) (nI mo_dh) mo_toldLines mo_highest mo_tape (nI mo_tl) (nI mo_ps) (nI mo_fr) mo_sort mo_value (nI mo_ft) mo_wrongAt mo_row mo_orderMany (nI mo_fo) mo_lightest mo_heaviest mo_before 0 0 mo_allWays mo_lanes mo_sizes mo_cells mo_torn mo_had, _, _] := hD
  refine lv_aload_n hx hb dX8_findCourt_20 rfl (lv_at hl 1 rfl) ?_
  refine lv_bipush (v := 10) hx hb dX8_findCourt_21 hkb_10 ?_
  refine lv_aload_n hx hb dX8_findCourt_23 rfl (lv_at hl 1 rfl) ?_
  refine va_get (D := D) (ci := 7) (v := .int (nI mo_pe)) (C := RX8) (T := TX8) (N := 32) hx hb hts hiX8 hown hK hP 0 rfl rfl 3 (Nat.le_of_ble_eq_true rfl) fl63 (fun _ h9 => h9) rfl dX8_findCourt_24 ?_
  refine hs_pi (va_runS (As := [.int 10, .int (nI mo_pe)]) (rest := [.ref mo]) ⟨hx, hb, hml, hown, hts⟩ (gm_power l D k _ 10 mo_pe (by omega)) (va_cwS 2 hts gX8_findCourt_X8_power rfl rfl rfl hq_X8_power ⟨Nat.le_of_ble_eq_true rfl, Nat.le_of_ble_eq_true rfl⟩) (hs_preS hK hN (hs_subP (w := []) hP [] rfl) (hD.sub (ws' := []) [] rfl rfl)) rfl rfl hl.1 rfl (lv_room (Nat.le_of_ble_eq_true rfl)) dX8_findCourt_27 ⟨Nat.le_of_ble_eq_true rfl, Nat.le_of_ble_eq_true rfl⟩) hP hD hS hA (fun r_7 u_9 H locs hw_8 hP hS => ?_)
  refine hs_topi (hspw 10 mo_pe) hw_8 ?_
  refine lv_i2l hx hb dX8_findCourt_30 rfl ?_
  refine va_put (D := D) (ci := 7) (v := .long (((hspw 10 mo_pe) : Int32).toInt64)) (ty := .long) (C := RX8) (T := TX8) (N := 32) hx hb hts hiX8 tyX8 tyX8_ok nmX8 hown hK hP hD hS 0 rfl rfl 26 (Nat.le_of_ble_eq_true rfl) fl256 (fun _ h9 => h9) rfl (by decide +kernel) rfl rfl (Nat.le_of_ble_eq_true rfl) dX8_findCourt_31 (fun H locs hP hD hS => ?_)
  have hP : va_P D vwCl [oq7 mo mo_st mo_at mo_isKept (nI mo_pe) (nI mo_hm) mo_draft (nI mo_dp) (nI mo_dh) mo_toldLines mo_highest mo_tape (nI mo_tl) (nI mo_ps) (nI mo_fr) mo_sort mo_value (nI mo_ft) mo_wrongAt mo_row mo_orderMany (nI mo_fo) mo_lightest mo_heaviest mo_before 0 0 (((hspw 10 mo_pe) : Int32).toInt64) mo_lanes mo_sizes mo_cells mo_torn mo_had, _, _] H := hP
  have hD : va_D A [oq7 mo mo_st mo_at mo_isKept (nI mo_pe) (nI mo_hm) mo_draft (nI mo_dp) (nI mo_dh) mo_toldLines mo_highest mo_tape (nI mo_tl) (nI mo_ps) (nI mo_fr) mo_sort mo_value (nI mo_ft) mo_wrongAt mo_row mo_orderMany (nI mo_fo) mo_lightest mo_heaviest mo_before 0 0 (((hspw 10 mo_pe) : Int32).toInt64) mo_lanes mo_sizes mo_cells mo_torn mo_had, _, _] := hD
  refine lv_iconst (v := 0) hx hb dX8_findCourt_34 hki_0 ?_
  refine lv_istore (lv' := [(4, .int 0), (3, .int (nI jx)), (0, .ref mo), (1, .int v), (2, .int kk)]) hx hb dX8_findCourt_35 hl (Nat.le_of_ble_eq_true rfl) rfl (fun ls hl => ?_)
  refine hs_while (σ := Nat × Int64 × Int64) (fun x => x.1 ≤ 2 ^ mo_pe ∧ x.2.1 = A_jS v (nI jx) mo_pe x.1 ∧ x.2.2 = A_tS v (nI jx) mo_pe x.1) (fun x => 2 ^ mo_pe - x.1) (fun x => [oq7 mo mo_st mo_at mo_isKept (nI mo_pe) (nI mo_hm) mo_draft (nI mo_dp) (nI mo_dh) mo_toldLines mo_highest mo_tape (nI mo_tl) (nI mo_ps) (nI mo_fr) mo_sort mo_value (nI mo_ft) mo_wrongAt mo_row mo_orderMany (nI mo_fo) mo_lightest mo_heaviest mo_before (x.2.1) (x.2.2) (((hspw 10 mo_pe) : Int32).toInt64) mo_lanes mo_sizes mo_cells mo_torn mo_had, oqI k mo_st 132 (sf), oqI k mo_at 44 (u_3)]) (fun x => [(4, .int (nI (x.1))), (3, .int (nI jx)), (0, .ref mo), (1, .int v), (2, .int kk)]) ?_ (0, 0, 0) ?_ hP hD hS hl
  · intro x hI ih37 H locs ls hP hD hS hl
    obtain ⟨lie, js, ts⟩ := x
    try dsimp only at hI
    have hP : va_P D vwCl [oq7 mo mo_st mo_at mo_isKept (nI mo_pe) (nI mo_hm) mo_draft (nI mo_dp) (nI mo_dh) mo_toldLines mo_highest mo_tape (nI mo_tl) (nI mo_ps) (nI mo_fr) mo_sort mo_value (nI mo_ft) mo_wrongAt mo_row mo_orderMany (nI mo_fo) mo_lightest mo_heaviest mo_before js ts (((hspw 10 mo_pe) : Int32).toInt64) mo_lanes mo_sizes mo_cells mo_torn mo_had, _, _] H := hP
    have hD : va_D A [oq7 mo mo_st mo_at mo_isKept (nI mo_pe) (nI mo_hm) mo_draft (nI mo_dp) (nI mo_dh) mo_toldLines mo_highest mo_tape (nI mo_tl) (nI mo_ps) (nI mo_fr) mo_sort mo_value (nI mo_ft) mo_wrongAt mo_row mo_orderMany (nI mo_fo) mo_lightest mo_heaviest mo_before js ts (((hspw 10 mo_pe) : Int32).toInt64) mo_lanes mo_sizes mo_cells mo_torn mo_had, _, _] := hD
    have hl : lv_has ls 8 [(4, .int (nI lie)), (3, .int (nI jx)), (0, .ref mo), (1, .int v), (2, .int kk)] := hl
    refine lv_iload hx hb dX8_findCourt_37 (lv_at hl 0 rfl) ?_
    refine lv_iconst (v := 1) hx hb dX8_findCourt_39 hki_1 ?_
    refine lv_aload_n hx hb dX8_findCourt_40 rfl (lv_at hl 2 rfl) ?_
    refine va_get (D := D) (ci := 7) (v := .int (nI mo_pe)) (C := RX8) (T := TX8) (N := 32) hx hb hts hiX8 hown hK hP 0 rfl rfl 3 (Nat.le_of_ble_eq_true rfl) fl63 (fun _ h9 => h9) rfl dX8_findCourt_41 ?_
    refine lv_ishl hx hb dX8_findCourt_44 ?_
    refine hs_topi (nI (2 ^ mo_pe)) (hs_shl (by omega)) ?_
    refine lv_icmp_ge (tgt := 151) hx hb dX8_findCourt_45 rfl (fun c_10 => ?_) (fun c_10 => ?_)
    · have nc_10 : (2 ^ mo_pe) ≤ lie := (nI_leI (a := (2 ^ mo_pe)) (b := lie) (by omega) (by omega)).mp c_10
      exact hs_vret hx hb hr hlocks hK hP hD hS (u_3, js, ts, ((hspw 10 mo_pe) : Int32).toInt64) [0, 1, 2] rfl (hs_upnd rfl) dX8_findCourt_151 (⟨by rw [ejx, ← show lie = 2 ^ mo_pe by omega]; exact hI.2.1, by rw [ejx, ← show lie = 2 ^ mo_pe by omega]; exact hI.2.2, rfl⟩)
    · have nc_10 : ¬ (2 ^ mo_pe) ≤ lie := fun hq9 => c_10 ((nI_leI (a := (2 ^ mo_pe)) (b := lie) (by omega) (by omega)).mpr hq9)
      have hJ := hI
      refine lv_lconst (v := 1) hx hb dX8_findCourt_48 (by decide) ?_
      refine lv_lstore (lv' := [(5, .long 1), (4, .int (nI lie)), (3, .int (nI jx)), (0, .ref mo), (1, .int v), (2, .int kk)]) hx hb dX8_findCourt_49 hl (Nat.le_of_ble_eq_true rfl) rfl (fun ls hl => ?_)
      refine lv_iconst (v := 0) hx hb dX8_findCourt_51 hki_0 ?_
      refine lv_istore (lv' := [(7, .int 0), (5, .long 1), (4, .int (nI lie)), (3, .int (nI jx)), (0, .ref mo), (1, .int v), (2, .int kk)]) hx hb dX8_findCourt_52 hl (Nat.le_of_ble_eq_true rfl) rfl (fun ls hl => ?_)
      refine hs_while (σ := Int64 × Nat) (fun x => x.2 ≤ mo_pe ∧ x.1 = A_wy v (nI lie) x.2) (fun x => mo_pe - x.2) (fun x => [oq7 mo mo_st mo_at mo_isKept (nI mo_pe) (nI mo_hm) mo_draft (nI mo_dp) (nI mo_dh) mo_toldLines mo_highest mo_tape (nI mo_tl) (nI mo_ps) (nI mo_fr) mo_sort mo_value (nI mo_ft) mo_wrongAt mo_row mo_orderMany (nI mo_fo) mo_lightest mo_heaviest mo_before js ts (((hspw 10 mo_pe) : Int32).toInt64) mo_lanes mo_sizes mo_cells mo_torn mo_had, oqI k mo_st 132 (sf), oqI k mo_at 44 (u_3)]) (fun x => [(7, .int (nI (x.2))), (5, .long (x.1)), (4, .int (nI lie)), (3, .int (nI jx)), (0, .ref mo), (1, .int v), (2, .int kk)]) ?_ (1, 0) ?_ hP hD hS hl
      · intro x hI ih54 H locs ls hP hD hS hl
        obtain ⟨wy, px⟩ := x
        try dsimp only at hI
        have hP : va_P D vwCl [_, _, _] H := hP
        have hD : va_D A [_, _, _] := hD
        have hl : lv_has ls 8 [(7, .int (nI px)), (5, .long wy), (4, .int (nI lie)), (3, .int (nI jx)), (0, .ref mo), (1, .int v), (2, .int kk)] := hl
        refine lv_iload hx hb dX8_findCourt_54 (lv_at hl 0 rfl) ?_
        refine lv_aload_n hx hb dX8_findCourt_56 rfl (lv_at hl 4 rfl) ?_
        refine va_get (D := D) (ci := 7) (v := .int (nI mo_pe)) (C := RX8) (T := TX8) (N := 32) hx hb hts hiX8 hown hK hP 0 rfl rfl 3 (Nat.le_of_ble_eq_true rfl) fl63 (fun _ h9 => h9) rfl dX8_findCourt_57 ?_
        refine lv_icmp_ge (tgt := 95) hx hb dX8_findCourt_60 rfl (fun c_11 => ?_) (fun c_11 => ?_)
        · have nc_11 : mo_pe ≤ px := (nI_leI (a := mo_pe) (b := px) (by omega) (by omega)).mp c_11
          refine lv_iload_n hx hb dX8_findCourt_95 rfl (lv_at hl 3 rfl) ?_
          refine lv_iload hx hb dX8_findCourt_96 (lv_at hl 2 rfl) ?_
          refine lv_ixor hx hb dX8_findCourt_98 ?_
          refine hs_pi (va_runS (As := [.int ((nI jx) ^^^ (nI lie))]) (rest := []) ⟨hx, hb, hml, hown, hts⟩ (gr_bitsOf l D k _ ((nI jx) ^^^ (nI lie))) (va_cwS 1 hts gX8_findCourt_X8_bitsOf rfl rfl rfl hq_X8_bitsOf ⟨Nat.le_of_ble_eq_true rfl, Nat.le_of_ble_eq_true rfl⟩) (hs_preS hK hN (hs_subP (w := []) hP [] rfl) (hD.sub (ws' := []) [] rfl rfl)) rfl rfl hl.1 rfl (lv_room (Nat.le_of_ble_eq_true rfl)) dX8_findCourt_99 ⟨Nat.le_of_ble_eq_true rfl, Nat.le_of_ble_eq_true rfl⟩) hP hD hS hA (fun r_12 u_14 H locs hw_13 hP hS => ?_)
          refine hs_topi (A_bo ((nI jx) ^^^ (nI lie)) 8) hw_13 ?_
          refine lv_istore (lv' := [(7, .int (A_bo ((nI jx) ^^^ (nI lie)) 8)), (5, .long wy), (4, .int (nI lie)), (3, .int (nI jx)), (0, .ref mo), (1, .int v), (2, .int kk)]) hx hb dX8_findCourt_102 hl (Nat.le_of_ble_eq_true rfl) rfl (fun ls hl => ?_)
          refine lv_aload_n hx hb dX8_findCourt_104 rfl (lv_at hl 4 rfl) ?_
          refine lv_dup hx hb dX8_findCourt_105 rfl ?_
          refine va_get (D := D) (ci := 7) (v := .long js) (C := RX8) (T := TX8) (N := 32) hx hb hts hiX8 hown hK hP 0 rfl rfl 24 (Nat.le_of_ble_eq_true rfl) fl249 (fun _ h9 => h9) rfl dX8_findCourt_106 ?_
          refine lv_iconst (v := 2) hx hb dX8_findCourt_109 hki_2 ?_
          refine lv_iload hx hb dX8_findCourt_110 (lv_at hl 0 rfl) ?_
          refine lv_imul hx hb dX8_findCourt_112 ?_
          refine lv_aload_n hx hb dX8_findCourt_113 rfl (lv_at hl 4 rfl) ?_
          refine va_get (D := D) (ci := 7) (v := .int (nI mo_pe)) (C := RX8) (T := TX8) (N := 32) hx hb hts hiX8 hown hK hP 0 rfl rfl 3 (Nat.le_of_ble_eq_true rfl) fl63 (fun _ h9 => h9) rfl dX8_findCourt_114 ?_
          refine lv_icmp_le (tgt := 125) hx hb dX8_findCourt_117 rfl (fun c_15 => ?_) (fun c_15 => ?_)
          · refine lv_lconst (v := 0) hx hb dX8_findCourt_125 (by decide) ?_
            refine lv_ladd hx hb dX8_findCourt_126 ?_
            refine va_put (D := D) (ci := 7) (v := .long (js + 0)) (ty := .long) (C := RX8) (T := TX8) (N := 32) hx hb hts hiX8 tyX8 tyX8_ok nmX8 hown hK hP hD hS 0 rfl rfl 24 (Nat.le_of_ble_eq_true rfl) fl249 (fun _ h9 => h9) rfl (by decide +kernel) rfl rfl (Nat.le_of_ble_eq_true rfl) dX8_findCourt_127 (fun H locs hP hD hS => ?_)
            have hP : va_P D vwCl [oq7 mo mo_st mo_at mo_isKept (nI mo_pe) (nI mo_hm) mo_draft (nI mo_dp) (nI mo_dh) mo_toldLines mo_highest mo_tape (nI mo_tl) (nI mo_ps) (nI mo_fr) mo_sort mo_value (nI mo_ft) mo_wrongAt mo_row mo_orderMany (nI mo_fo) mo_lightest mo_heaviest mo_before (js + 0) ts (((hspw 10 mo_pe) : Int32).toInt64) mo_lanes mo_sizes mo_cells mo_torn mo_had, _, _] H := hP
            have hD : va_D A [oq7 mo mo_st mo_at mo_isKept (nI mo_pe) (nI mo_hm) mo_draft (nI mo_dp) (nI mo_dh) mo_toldLines mo_highest mo_tape (nI mo_tl) (nI mo_ps) (nI mo_fr) mo_sort mo_value (nI mo_ft) mo_wrongAt mo_row mo_orderMany (nI mo_fo) mo_lightest mo_heaviest mo_before (js + 0) ts (((hspw 10 mo_pe) : Int32).toInt64) mo_lanes mo_sizes mo_cells mo_torn mo_had, _, _] := hD
            refine lv_aload_n hx hb dX8_findCourt_130 rfl (lv_at hl 4 rfl) ?_
            refine lv_dup hx hb dX8_findCourt_131 rfl ?_
            refine va_get (D := D) (ci := 7) (v := .long ts) (C := RX8) (T := TX8) (N := 32) hx hb hts hiX8 hown hK hP 0 rfl rfl 25 (Nat.le_of_ble_eq_true rfl) fl253 (fun _ h9 => h9) rfl dX8_findCourt_132 ?_
            refine lv_lload hx hb dX8_findCourt_135 (lv_at hl 1 rfl) ?_
            refine lv_iload hx hb dX8_findCourt_137 (lv_at hl 0 rfl) ?_
            refine lv_i2l hx hb dX8_findCourt_139 rfl ?_
            refine lv_lmul hx hb dX8_findCourt_140 ?_
            refine lv_ladd hx hb dX8_findCourt_141 ?_
            refine va_put (D := D) (ci := 7) (v := .long (ts + (wy * (((A_bo ((nI jx) ^^^ (nI lie)) 8) : Int32).toInt64)))) (ty := .long) (C := RX8) (T := TX8) (N := 32) hx hb hts hiX8 tyX8 tyX8_ok nmX8 hown hK hP hD hS 0 rfl rfl 25 (Nat.le_of_ble_eq_true rfl) fl253 (fun _ h9 => h9) rfl (by decide +kernel) rfl rfl (Nat.le_of_ble_eq_true rfl) dX8_findCourt_142 (fun H locs hP hD hS => ?_)
            have hP : va_P D vwCl [oq7 mo mo_st mo_at mo_isKept (nI mo_pe) (nI mo_hm) mo_draft (nI mo_dp) (nI mo_dh) mo_toldLines mo_highest mo_tape (nI mo_tl) (nI mo_ps) (nI mo_fr) mo_sort mo_value (nI mo_ft) mo_wrongAt mo_row mo_orderMany (nI mo_fo) mo_lightest mo_heaviest mo_before (js + 0) (ts + (wy * (((A_bo ((nI jx) ^^^ (nI lie)) 8) : Int32).toInt64))) (((hspw 10 mo_pe) : Int32).toInt64) mo_lanes mo_sizes mo_cells mo_torn mo_had, _, _] H := hP
            have hD : va_D A [oq7 mo mo_st mo_at mo_isKept (nI mo_pe) (nI mo_hm) mo_draft (nI mo_dp) (nI mo_dh) mo_toldLines mo_highest mo_tape (nI mo_tl) (nI mo_ps) (nI mo_fr) mo_sort mo_value (nI mo_ft) mo_wrongAt mo_row mo_orderMany (nI mo_fo) mo_lightest mo_heaviest mo_before (js + 0) (ts + (wy * (((A_bo ((nI jx) ^^^ (nI lie)) 8) : Int32).toInt64))) (((hspw 10 mo_pe) : Int32).toInt64) mo_lanes mo_sizes mo_cells mo_torn mo_had, _, _] := hD
            refine lv_iinc (v := nI (lie + 1)) (lv' := [(4, .int (nI (lie + 1))), (7, .int (A_bo ((nI jx) ^^^ (nI lie)) 8)), (5, .long wy), (3, .int (nI jx)), (0, .ref mo), (1, .int v), (2, .int kk)]) hx hb dX8_findCourt_145 hl (k := 2) rfl (nI_add (lie) 1) (Nat.le_of_ble_eq_true rfl) rfl (fun ls hl => ?_)
            refine lv_goto (tgt := 37) hx hb dX8_findCourt_148 rfl ?_
            exact ih37 (lie + 1, js + 0, ts + (wy * (((A_bo ((nI jx) ^^^ (nI lie)) 8) : Int32).toInt64))) (by (try dsimp only); exact ⟨by omega, by rw [A_jS, if_pos c_15, ← hJ.2.1], by rw [A_tS, ← hJ.2.2, hI.2, show px = mo_pe by omega]⟩) (by (try dsimp only); omega) _ _ _ hP hD hS (lv_sub hl [0, 3, 4, 5, 6] rfl)
          · refine lv_lload hx hb dX8_findCourt_120 (lv_at hl 1 rfl) ?_
            refine lv_goto (tgt := 126) hx hb dX8_findCourt_122 rfl ?_
            refine lv_ladd hx hb dX8_findCourt_126 ?_
            refine va_put (D := D) (ci := 7) (v := .long (js + wy)) (ty := .long) (C := RX8) (T := TX8) (N := 32) hx hb hts hiX8 tyX8 tyX8_ok nmX8 hown hK hP hD hS 0 rfl rfl 24 (Nat.le_of_ble_eq_true rfl) fl249 (fun _ h9 => h9) rfl (by decide +kernel) rfl rfl (Nat.le_of_ble_eq_true rfl) dX8_findCourt_127 (fun H locs hP hD hS => ?_)
            have hP : va_P D vwCl [oq7 mo mo_st mo_at mo_isKept (nI mo_pe) (nI mo_hm) mo_draft (nI mo_dp) (nI mo_dh) mo_toldLines mo_highest mo_tape (nI mo_tl) (nI mo_ps) (nI mo_fr) mo_sort mo_value (nI mo_ft) mo_wrongAt mo_row mo_orderMany (nI mo_fo) mo_lightest mo_heaviest mo_before (js + wy) ts (((hspw 10 mo_pe) : Int32).toInt64) mo_lanes mo_sizes mo_cells mo_torn mo_had, _, _] H := hP
            have hD : va_D A [oq7 mo mo_st mo_at mo_isKept (nI mo_pe) (nI mo_hm) mo_draft (nI mo_dp) (nI mo_dh) mo_toldLines mo_highest mo_tape (nI mo_tl) (nI mo_ps) (nI mo_fr) mo_sort mo_value (nI mo_ft) mo_wrongAt mo_row mo_orderMany (nI mo_fo) mo_lightest mo_heaviest mo_before (js + wy) ts (((hspw 10 mo_pe) : Int32).toInt64) mo_lanes mo_sizes mo_cells mo_torn mo_had, _, _] := hD
            refine lv_aload_n hx hb dX8_findCourt_130 rfl (lv_at hl 4 rfl) ?_
            refine lv_dup hx hb dX8_findCourt_131 rfl ?_
            refine va_get (D := D) (ci := 7) (v := .long ts) (C := RX8) (T := TX8) (N := 32) hx hb hts hiX8 hown hK hP 0 rfl rfl 25 (Nat.le_of_ble_eq_true rfl) fl253 (fun _ h9 => h9) rfl dX8_findCourt_132 ?_
            refine lv_lload hx hb dX8_findCourt_135 (lv_at hl 1 rfl) ?_
            refine lv_iload hx hb dX8_findCourt_137 (lv_at hl 0 rfl) ?_
            refine lv_i2l hx hb dX8_findCourt_139 rfl ?_
            refine lv_lmul hx hb dX8_findCourt_140 ?_
            refine lv_ladd hx hb dX8_findCourt_141 ?_
            refine va_put (D := D) (ci := 7) (v := .long (ts + (wy * (((A_bo ((nI jx) ^^^ (nI lie)) 8) : Int32).toInt64)))) (ty := .long) (C := RX8) (T := TX8) (N := 32) hx hb hts hiX8 tyX8 tyX8_ok nmX8 hown hK hP hD hS 0 rfl rfl 25 (Nat.le_of_ble_eq_true rfl) fl253 (fun _ h9 => h9) rfl (by decide +kernel) rfl rfl (Nat.le_of_ble_eq_true rfl) dX8_findCourt_142 (fun H locs hP hD hS => ?_)
            have hP : va_P D vwCl [oq7 mo mo_st mo_at mo_isKept (nI mo_pe) (nI mo_hm) mo_draft (nI mo_dp) (nI mo_dh) mo_toldLines mo_highest mo_tape (nI mo_tl) (nI mo_ps) (nI mo_fr) mo_sort mo_value (nI mo_ft) mo_wrongAt mo_row mo_orderMany (nI mo_fo) mo_lightest mo_heaviest mo_before (js + wy) (ts + (wy * (((A_bo ((nI jx) ^^^ (nI lie)) 8) : Int32).toInt64))) (((hspw 10 mo_pe) : Int32).toInt64) mo_lanes mo_sizes mo_cells mo_torn mo_had, _, _] H := hP
            have hD : va_D A [oq7 mo mo_st mo_at mo_isKept (nI mo_pe) (nI mo_hm) mo_draft (nI mo_dp) (nI mo_dh) mo_toldLines mo_highest mo_tape (nI mo_tl) (nI mo_ps) (nI mo_fr) mo_sort mo_value (nI mo_ft) mo_wrongAt mo_row mo_orderMany (nI mo_fo) mo_lightest mo_heaviest mo_before (js + wy) (ts + (wy * (((A_bo ((nI jx) ^^^ (nI lie)) 8) : Int32).toInt64))) (((hspw 10 mo_pe) : Int32).toInt64) mo_lanes mo_sizes mo_cells mo_torn mo_had, _, _] := hD
            refine lv_iinc (v := nI (lie + 1)) (lv' := [(4, .int (nI (lie + 1))), (7, .int (A_bo ((nI jx) ^^^ (nI lie)) 8)), (5, .long wy), (3, .int (nI jx)), (0, .ref mo), (1, .int v), (2, .int kk)]) hx hb dX8_findCourt_145 hl (k := 2) rfl (nI_add (lie) 1) (Nat.le_of_ble_eq_true rfl) rfl (fun ls hl => ?_)
            refine lv_goto (tgt := 37) hx hb dX8_findCourt_148 rfl ?_
            exact ih37 (lie + 1, js + wy, ts + (wy * (((A_bo ((nI jx) ^^^ (nI lie)) 8) : Int32).toInt64))) (by (try dsimp only); exact ⟨by omega, by rw [A_jS, if_neg c_15, ← hJ.2.1, hI.2, show px = mo_pe by omega], by rw [A_tS, ← hJ.2.2, hI.2, show px = mo_pe by omega]⟩) (by (try dsimp only); omega) _ _ _ hP hD hS (lv_sub hl [0, 3, 4, 5, 6] rfl)
        · have nc_11 : ¬ mo_pe ≤ px := fun hq9 => c_11 ((nI_leI (a := mo_pe) (b := px) (by omega) (by omega)).mpr hq9)
          refine lv_lload hx hb dX8_findCourt_63 (lv_at hl 1 rfl) ?_
          refine lv_iload hx hb dX8_findCourt_65 (lv_at hl 2 rfl) ?_
          refine lv_iload hx hb dX8_findCourt_67 (lv_at hl 0 rfl) ?_
          refine lv_ishr hx hb dX8_findCourt_69 ?_
          refine lv_iconst (v := 1) hx hb dX8_findCourt_70 hki_1 ?_
          refine lv_iand hx hb dX8_findCourt_71 ?_
          refine lv_iconst (v := 1) hx hb dX8_findCourt_72 hki_1 ?_
          refine lv_icmp_ne (tgt := 81) hx hb dX8_findCourt_73 rfl (fun c_16 => ?_) (fun c_16 => ?_)
          · refine lv_bipush (v := 10) hx hb dX8_findCourt_81 hkb_10 ?_
            refine lv_iload_n hx hb dX8_findCourt_83 rfl (lv_at hl 5 rfl) ?_
            refine lv_isub hx hb dX8_findCourt_84 ?_
            refine lv_i2l hx hb dX8_findCourt_85 rfl ?_
            refine lv_lmul hx hb dX8_findCourt_86 ?_
            refine lv_lstore (lv' := [(5, .long (wy * (((10 - v) : Int32).toInt64))), (7, .int (nI px)), (4, .int (nI lie)), (3, .int (nI jx)), (0, .ref mo), (1, .int v), (2, .int kk)]) hx hb dX8_findCourt_87 hl (Nat.le_of_ble_eq_true rfl) rfl (fun ls hl => ?_)
            refine lv_iinc (v := nI (px + 1)) (lv' := [(7, .int (nI (px + 1))), (5, .long (wy * (((10 - v) : Int32).toInt64))), (4, .int (nI lie)), (3, .int (nI jx)), (0, .ref mo), (1, .int v), (2, .int kk)]) hx hb dX8_findCourt_89 hl (k := 1) rfl (nI_add (px) 1) (Nat.le_of_ble_eq_true rfl) rfl (fun ls hl => ?_)
            refine lv_goto (tgt := 54) hx hb dX8_findCourt_92 rfl ?_
            exact ih54 (wy * (((10 - v) : Int32).toInt64), px + 1) (by (try dsimp only); exact ⟨by omega, by rw [A_wy, if_neg c_16, hI.2]⟩) (by (try dsimp only); omega) _ _ _ hP hD hS (lv_sub hl [0, 1, 2, 3, 4, 5, 6] rfl)
          · refine lv_iload_n hx hb dX8_findCourt_76 rfl (lv_at hl 5 rfl) ?_
            refine lv_i2l hx hb dX8_findCourt_77 rfl ?_
            refine lv_goto (tgt := 86) hx hb dX8_findCourt_78 rfl ?_
            refine lv_lmul hx hb dX8_findCourt_86 ?_
            refine lv_lstore (lv' := [(5, .long (wy * (((v) : Int32).toInt64))), (7, .int (nI px)), (4, .int (nI lie)), (3, .int (nI jx)), (0, .ref mo), (1, .int v), (2, .int kk)]) hx hb dX8_findCourt_87 hl (Nat.le_of_ble_eq_true rfl) rfl (fun ls hl => ?_)
            refine lv_iinc (v := nI (px + 1)) (lv' := [(7, .int (nI (px + 1))), (5, .long (wy * (((v) : Int32).toInt64))), (4, .int (nI lie)), (3, .int (nI jx)), (0, .ref mo), (1, .int v), (2, .int kk)]) hx hb dX8_findCourt_89 hl (k := 1) rfl (nI_add (px) 1) (Nat.le_of_ble_eq_true rfl) rfl (fun ls hl => ?_)
            refine lv_goto (tgt := 54) hx hb dX8_findCourt_92 rfl ?_
            exact ih54 (wy * (((v) : Int32).toInt64), px + 1) (by (try dsimp only); exact ⟨by omega, by rw [A_wy, if_pos c_16, hI.2]⟩) (by (try dsimp only); omega) _ _ _ hP hD hS (lv_sub hl [0, 1, 2, 3, 4, 5, 6] rfl)
      · (try dsimp only); exact ⟨Nat.zero_le _, rfl⟩
  · (try dsimp only); exact ⟨Nat.zero_le _, rfl, rfl⟩
