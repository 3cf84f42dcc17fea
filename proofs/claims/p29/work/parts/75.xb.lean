set_option maxHeartbeats 4000000 in
set_option maxRecDepth 100000 in
theorem gf_kindOfSign (l : Launch) (D : va_G) (k : Nat → ClassId) (sz : Nat) (v : Int32)  : MI l yX4_kindOfSign wsX4_kindOfSign ({ frames := 0, cells := 0, slots := 0, locals := 0 }) D k [.int v] [] sz (fun (r : Int32) (u : Unit) => r = hks v) (fun (u : Unit) => []) := by
  refine Met.ofW (cc := cX4_kindOfSign) (maxL := 1) (ret := (some .int)) hpn_X4 rfl ?_
  intro p e s m args below meth c s₁ B hml hv
  obtain ⟨rfl, hsz, hP, hK, hD0, hN⟩ := hv
  have hx := B.exec
  have hb := B.bytes
  have hr := B.returns
  have hlocks := B.notSynchronized
  have hts := atoms_spec (ws := wsX4_kindOfSign) B.pre
  have hown := findClass_of_methodNamed B.named
  have hown : s.vm.findClass RX4 = some m.cls := hown
  subst hsz
  have hD := hD0.self (sz := s.heap.size)
  generalize hAe : va_A [] s.heap.size = A at hD ⊢
  have hA : ∀ q : Nat, s.heap.size ≤ q → A q := fun q h => by rw [← hAe]; exact Or.inr h
  have hS : va_S A s.heap s.heap [] := va_S.rf
  have hl := lv_entry ([.int v]) (n := 1) (Nat.le_of_ble_eq_true rfl)
  rw [lg_entry_eq]
  generalize (lg_sl ([.int v]) ++ List.replicate (1 - (lg_sl ([.int v])).length) Slot.unset).toArray = ls at hl ⊢
  have hl : lv_has ls 1 [(0, .int v)] := hl
  have hP : va_P D vwCl [] s.heap := hP
  refine lv_iload_n hx hb dX4_kindOfSign_0 rfl (lv_at hl 0 rfl) ?_
  refine lv_bipush (v := 97) hx hb dX4_kindOfSign_1 hkb_97 ?_
  refine lv_icmp_lt (tgt := 14) hx hb dX4_kindOfSign_3 rfl (fun c_1 => ?_) (fun c_1 => ?_)
  · refine lv_iload_n hx hb dX4_kindOfSign_14 rfl (lv_at hl 0 rfl) ?_
    refine lv_bipush (v := 48) hx hb dX4_kindOfSign_15 hkb_48 ?_
    refine lv_icmp_lt (tgt := 28) hx hb dX4_kindOfSign_17 rfl (fun c_2 => ?_) (fun c_2 => ?_)
    · refine lv_iload_n hx hb dX4_kindOfSign_28 rfl (lv_at hl 0 rfl) ?_
      refine lv_bipush (v := 59) hx hb dX4_kindOfSign_29 hkb_59 ?_
      refine lv_icmp_ne (tgt := 38) hx hb dX4_kindOfSign_31 rfl (fun c_3 => ?_) (fun c_3 => ?_)
      · refine lv_iconst (v := 4) hx hb dX4_kindOfSign_38 hki_4 ?_
        exact hs_iret hx hb hr hlocks hK hP hD hS () [] rfl (hs_upnd rfl) dX4_kindOfSign_39 ((hks_4 (hsin_ff1 c_1) (hsin_ff1 c_2) c_3).symm)
      · refine lv_iconst (v := 3) hx hb dX4_kindOfSign_34 hki_3 ?_
        refine lv_goto (tgt := 39) hx hb dX4_kindOfSign_35 rfl ?_
        exact hs_iret hx hb hr hlocks hK hP hD hS () [] rfl (hs_upnd rfl) dX4_kindOfSign_39 ((hks_3 (hsin_ff1 c_1) (hsin_ff1 c_2) c_3).symm)
    · refine lv_iload_n hx hb dX4_kindOfSign_20 rfl (lv_at hl 0 rfl) ?_
      refine lv_bipush (v := 57) hx hb dX4_kindOfSign_21 hkb_57 ?_
      refine lv_icmp_gt (tgt := 28) hx hb dX4_kindOfSign_23 rfl (fun c_4 => ?_) (fun c_4 => ?_)
      · refine lv_iload_n hx hb dX4_kindOfSign_28 rfl (lv_at hl 0 rfl) ?_
        refine lv_bipush (v := 59) hx hb dX4_kindOfSign_29 hkb_59 ?_
        refine lv_icmp_ne (tgt := 38) hx hb dX4_kindOfSign_31 rfl (fun c_5 => ?_) (fun c_5 => ?_)
        · refine lv_iconst (v := 4) hx hb dX4_kindOfSign_38 hki_4 ?_
          exact hs_iret hx hb hr hlocks hK hP hD hS () [] rfl (hs_upnd rfl) dX4_kindOfSign_39 ((hks_4 (hsin_ff1 c_1) (hsin_ff2 c_4) c_5).symm)
        · refine lv_iconst (v := 3) hx hb dX4_kindOfSign_34 hki_3 ?_
          refine lv_goto (tgt := 39) hx hb dX4_kindOfSign_35 rfl ?_
          exact hs_iret hx hb hr hlocks hK hP hD hS () [] rfl (hs_upnd rfl) dX4_kindOfSign_39 ((hks_3 (hsin_ff1 c_1) (hsin_ff2 c_4) c_5).symm)
      · refine lv_iconst (v := 2) hx hb dX4_kindOfSign_26 hki_2 ?_
        exact hs_iret hx hb hr hlocks hK hP hD hS () [] rfl (hs_upnd rfl) dX4_kindOfSign_27 ((hks_2 (hsin_ff1 c_1) (hsin_tt c_2 c_4)).symm)
  · refine lv_iload_n hx hb dX4_kindOfSign_6 rfl (lv_at hl 0 rfl) ?_
    refine lv_bipush (v := 122) hx hb dX4_kindOfSign_7 hkb_122 ?_
    refine lv_icmp_gt (tgt := 14) hx hb dX4_kindOfSign_9 rfl (fun c_6 => ?_) (fun c_6 => ?_)
    · refine lv_iload_n hx hb dX4_kindOfSign_14 rfl (lv_at hl 0 rfl) ?_
      refine lv_bipush (v := 48) hx hb dX4_kindOfSign_15 hkb_48 ?_
      refine lv_icmp_lt (tgt := 28) hx hb dX4_kindOfSign_17 rfl (fun c_7 => ?_) (fun c_7 => ?_)
      · refine lv_iload_n hx hb dX4_kindOfSign_28 rfl (lv_at hl 0 rfl) ?_
        refine lv_bipush (v := 59) hx hb dX4_kindOfSign_29 hkb_59 ?_
        refine lv_icmp_ne (tgt := 38) hx hb dX4_kindOfSign_31 rfl (fun c_8 => ?_) (fun c_8 => ?_)
        · refine lv_iconst (v := 4) hx hb dX4_kindOfSign_38 hki_4 ?_
          exact hs_iret hx hb hr hlocks hK hP hD hS () [] rfl (hs_upnd rfl) dX4_kindOfSign_39 ((hks_4 (hsin_ff2 c_6) (hsin_ff1 c_7) c_8).symm)
        · refine lv_iconst (v := 3) hx hb dX4_kindOfSign_34 hki_3 ?_
          refine lv_goto (tgt := 39) hx hb dX4_kindOfSign_35 rfl ?_
          exact hs_iret hx hb hr hlocks hK hP hD hS () [] rfl (hs_upnd rfl) dX4_kindOfSign_39 ((hks_3 (hsin_ff2 c_6) (hsin_ff1 c_7) c_8).symm)
      · refine lv_iload_n hx hb dX4_kindOfSign_20 rfl (lv_at hl 0 rfl) ?_
        refine lv_bipush (v := 57) hx hb dX4_kindOfSign_21 hkb_57 ?_
        refine lv_icmp_gt (tgt := 28) hx hb dX4_kindOfSign_23 rfl (fun c_9 => ?_) (fun c_9 => ?_)
        · refine lv_iload_n hx hb dX4_kindOfSign_28 rfl (lv_at hl 0 rfl) ?_
          refine lv_bipush (v := 59) hx hb dX4_kindOfSign_29 hkb_59 ?_
          refine lv_icmp_ne (tgt := 38) hx hb dX4_kindOfSign_31 rfl (fun c_10 => ?_) (fun c_10 => ?_)
          · refine lv_iconst (v := 4) hx hb dX4_kindOfSign_38 hki_4 ?_
            exact hs_iret hx hb hr hlocks hK hP hD hS () [] rfl (hs_upnd rfl) dX4_kindOfSign_39 ((hks_4 (hsin_ff2 c_6) (hsin_ff2 c_9) c_10).symm)
          · refine lv_iconst (v := 3) hx hb dX4_kindOfSign_34 hki_3 ?_
            refine lv_goto (tgt := 39) hx hb dX4_kindOfSign_35 rfl ?_
            exact hs_iret hx hb hr hlocks hK hP hD hS () [] rfl (hs_upnd rfl) dX4_kindOfSign_39 ((hks_3 (hsin_ff2 c_6) (hsin_ff2 c_9) c_10).symm)
        · refine lv_iconst (v := 2) hx hb dX4_kindOfSign_26 hki_2 ?_
          exact hs_iret hx hb hr hlocks hK hP hD hS () [] rfl (hs_upnd rfl) dX4_kindOfSign_27 ((hks_2 (hsin_ff2 c_6) (hsin_tt c_7 c_9)).symm)
    · refine lv_iconst (v := 1) hx hb dX4_kindOfSign_12 hki_1 ?_
      exact hs_iret hx hb hr hlocks hK hP hD hS () [] rfl (hs_upnd rfl) dX4_kindOfSign_13 ((hks_1 (hsin_tt c_1 c_6)).symm)

set_option maxHeartbeats 4000000 in
set_option maxRecDepth 100000 in
theorem gf_isLong (l : Launch) (D : va_G) (k : Nat → ClassId) (sz : Nat) (a : Nat) (a_bytes : Nat) (a_len : Nat) (a_kd : Int32) (a_st : Nat) (a_be : Nat) (a_va : Int32)  : MI l yX4_isLong wsX4_isLong ({ frames := 0, cells := 0, slots := 0, locals := 0 }) D k [.ref a] [oq3 a a_bytes (nI a_len) a_kd (nI a_st) (nI a_be) a_va] sz (fun (r : Int32) (u : Unit) => r = hsb (hsL a_kd)) (fun (u : Unit) => [oq3 a a_bytes (nI a_len) a_kd (nI a_st) (nI a_be) a_va]) := by
  refine Met.ofW (cc := cX4_isLong) (maxL := 1) (ret := (some .boolean)) hpn_X4 rfl ?_
  intro p e s m args below meth c s₁ B hml hv
  obtain ⟨rfl, hsz, hP, hK, hD0, hN⟩ := hv
  have hx := B.exec
  have hb := B.bytes
  have hr := B.returns
  have hlocks := B.notSynchronized
  have hts := atoms_spec (ws := wsX4_isLong) B.pre
  have hown := findClass_of_methodNamed B.named
  have hown : s.vm.findClass RX4 = some m.cls := hown
  have hiX4 : ∀ w ∈ u_ws RX4 TX4 6, w ∈ wsX4_isLong := fun w9 hw9 => List.mem_cons_of_mem _ (igX4 w9 hw9)
  have fl31 := hts (.fieldLink RX4 31 "HalfScales$Tape" "kind" "I") (List.mem_cons_of_mem _ (hs_inG 1 128 rfl rfl))
  subst hsz
  have hD := hD0.self (sz := s.heap.size)
  generalize hAe : va_A [oq3 a a_bytes (nI a_len) a_kd (nI a_st) (nI a_be) a_va] s.heap.size = A at hD ⊢
  have hA : ∀ q : Nat, s.heap.size ≤ q → A q := fun q h => by rw [← hAe]; exact Or.inr h
  have hS : va_S A s.heap s.heap [] := va_S.rf
  have hl := lv_entry ([.ref a]) (n := 1) (Nat.le_of_ble_eq_true rfl)
  rw [lg_entry_eq]
  generalize (lg_sl ([.ref a]) ++ List.replicate (1 - (lg_sl ([.ref a])).length) Slot.unset).toArray = ls at hl ⊢
  have hl : lv_has ls 1 [(0, .ref a)] := hl
  have hP : va_P D vwCl [oq3 a a_bytes (nI a_len) a_kd (nI a_st) (nI a_be) a_va] s.heap := hP
  refine lv_aload_n hx hb dX4_isLong_0 rfl (lv_at hl 0 rfl) ?_
  refine va_get (D := D) (ci := 3) (v := .int a_kd) (C := RX4) (T := TX4) (N := 6) hx hb hts hiX4 hown hK hP 0 rfl rfl 2 (Nat.le_of_ble_eq_true rfl) fl31 (fun _ h9 => h9) rfl dX4_isLong_1 ?_
  refine lv_iconst (v := 1) hx hb dX4_isLong_4 hki_1 ?_
  refine lv_icmp_eq (tgt := 16) hx hb dX4_isLong_5 rfl (fun c_1 => ?_) (fun c_1 => ?_)
  · refine lv_iconst (v := 1) hx hb dX4_isLong_16 hki_1 ?_
    refine lv_goto (tgt := 21) hx hb dX4_isLong_17 rfl ?_
    exact hs_zret hx hb hr hlocks hK hP hD hS () [0] rfl (hs_upnd rfl) dX4_isLong_21 rfl ((by rw [hsL, decide_eq_true (Or.inl c_1)]; rfl))
  · refine lv_aload_n hx hb dX4_isLong_8 rfl (lv_at hl 0 rfl) ?_
    refine va_get (D := D) (ci := 3) (v := .int a_kd) (C := RX4) (T := TX4) (N := 6) hx hb hts hiX4 hown hK hP 0 rfl rfl 2 (Nat.le_of_ble_eq_true rfl) fl31 (fun _ h9 => h9) rfl dX4_isLong_9 ?_
    refine lv_iconst (v := 2) hx hb dX4_isLong_12 hki_2 ?_
    refine lv_icmp_ne (tgt := 20) hx hb dX4_isLong_13 rfl (fun c_2 => ?_) (fun c_2 => ?_)
    · refine lv_iconst (v := 0) hx hb dX4_isLong_20 hki_0 ?_
      exact hs_zret hx hb hr hlocks hK hP hD hS () [0] rfl (hs_upnd rfl) dX4_isLong_21 rfl ((by rw [hsL, decide_eq_false (fun h9 => h9.elim c_1 c_2)]; rfl))
    · refine lv_iconst (v := 1) hx hb dX4_isLong_16 hki_1 ?_
      refine lv_goto (tgt := 21) hx hb dX4_isLong_17 rfl ?_
      exact hs_zret hx hb hr hlocks hK hP hD hS () [0] rfl (hs_upnd rfl) dX4_isLong_21 rfl ((by rw [hsL, decide_eq_true (Or.inr c_2)]; rfl))

set_option maxHeartbeats 4000000 in
set_option maxRecDepth 100000 in
theorem gf_measure (l : Launch) (D : va_G) (k : Nat → ClassId) (sz : Nat) (a : Nat) (a_bytes : Nat) (a_len : Nat) (a_kd : Int32) (a_st : Nat) (a_be : Nat) (a_va : Int32) (a_f : Nat → Int32) (hb160 : a_be ≤ 160) (hsb0 : a_st ≤ a_be) (hva : a_va = 0) : MV l yX4_measure wsX4_measure ({ frames := 0, cells := 0, slots := 0, locals := 0 }) D k [.ref a] [oq3 a a_bytes (nI a_len) a_kd (nI a_st) (nI a_be) a_va, oqI k a_bytes 160 (a_f)] sz (fun (u : Int32 × Int32) => u.1 = (if 2 < a_be - a_st then 4 else a_kd) ∧ u.2 = (if 2 < a_be - a_st then 0 else hnv a_f a_st (a_be - a_st))) (fun (u : Int32 × Int32) => [oq3 a a_bytes (nI a_len) u.1 (nI a_st) (nI a_be) u.2, oqI k a_bytes 160 (a_f)]) := by
  refine Met.ofW (cc := cX4_measure) (maxL := 2) (ret := none) hpn_X4 rfl ?_
  intro p e s m args below meth c s₁ B hml hv
  obtain ⟨rfl, hsz, hP, hK, hD0, hN⟩ := hv
  have hx := B.exec
  have hb := B.bytes
  have hr := B.returns
  have hlocks := B.notSynchronized
  have hts := atoms_spec (ws := wsX4_measure) B.pre
  have hown := findClass_of_methodNamed B.named
  have hown : s.vm.findClass RX4 = some m.cls := hown
  have hiX4 : ∀ w ∈ u_ws RX4 TX4 6, w ∈ wsX4_measure := fun w9 hw9 => List.mem_cons_of_mem _ (igX4 w9 hw9)
  have fl15 := hts (.fieldLink RX4 15 "HalfScales$Tape" "behind" "I") (List.mem_cons_of_mem _ (hs_inG 1 131 rfl rfl))
  have fl22 := hts (.fieldLink RX4 22 "HalfScales$Tape" "start" "I") (List.mem_cons_of_mem _ (hs_inG 1 129 rfl rfl))
  have fl28 := hts (.fieldLink RX4 28 "HalfScales$Tape" "value" "I") (List.mem_cons_of_mem _ (hs_inG 1 132 rfl rfl))
  have fl9 := hts (.fieldLink RX4 9 "HalfScales$Tape" "bytes" "[I") (List.mem_cons_of_mem _ (hs_inG 1 123 rfl rfl))
  have fl31 := hts (.fieldLink RX4 31 "HalfScales$Tape" "kind" "I") (List.mem_cons_of_mem _ (hs_inG 1 128 rfl rfl))
  subst hsz
  have hD := hD0.self (sz := s.heap.size)
  generalize hAe : va_A [oq3 a a_bytes (nI a_len) a_kd (nI a_st) (nI a_be) a_va, oqI k a_bytes 160 (a_f)] s.heap.size = A at hD ⊢
  have hA : ∀ q : Nat, s.heap.size ≤ q → A q := fun q h => by rw [← hAe]; exact Or.inr h
  have hS : va_S A s.heap s.heap [] := va_S.rf
  have hl := lv_entry ([.ref a]) (n := 2) (Nat.le_of_ble_eq_true rfl)
  rw [lg_entry_eq]
  generalize (lg_sl ([.ref a]) ++ List.replicate (2 - (lg_sl ([.ref a])).length) Slot.unset).toArray = ls at hl ⊢
  have hl : lv_has ls 2 [(0, .ref a)] := hl
  have hP : va_P D vwCl [oq3 a a_bytes (nI a_len) a_kd (nI a_st) (nI a_be) a_va, oqI k a_bytes 160 (a_f)] s.heap := hP
  refine lv_aload_n hx hb dX4_measure_0 rfl (lv_at hl 0 rfl) ?_
  refine va_get (D := D) (ci := 3) (v := .int (nI a_be)) (C := RX4) (T := TX4) (N := 6) hx hb hts hiX4 hown hK hP 0 rfl rfl 4 (Nat.le_of_ble_eq_true rfl) fl15 (fun _ h9 => h9) rfl dX4_measure_1 ?_
  refine lv_aload_n hx hb dX4_measure_4 rfl (lv_at hl 0 rfl) ?_
  refine va_get (D := D) (ci := 3) (v := .int (nI a_st)) (C := RX4) (T := TX4) (N := 6) hx hb hts hiX4 hown hK hP 0 rfl rfl 3 (Nat.le_of_ble_eq_true rfl) fl22 (fun _ h9 => h9) rfl dX4_measure_5 ?_
  refine lv_isub hx hb dX4_measure_8 ?_
  refine hs_topi (nI (a_be - a_st)) (pk_sub (a := a_be) (b := a_st) (by omega)) ?_
  refine lv_iconst (v := 2) hx hb dX4_measure_9 hki_2 ?_
  refine lv_icmp_le (tgt := 19) hx hb dX4_measure_10 rfl (fun c_1 => ?_) (fun c_1 => ?_)
  · have nc_1 : (a_be - a_st) ≤ 2 := (nI_leI (a := (a_be - a_st)) (b := 2) (by omega) (by omega)).mp c_1
    refine lv_aload_n hx hb dX4_measure_19 rfl (lv_at hl 0 rfl) ?_
    refine va_get (D := D) (ci := 3) (v := .int (nI a_st)) (C := RX4) (T := TX4) (N := 6) hx hb hts hiX4 hown hK hP 0 rfl rfl 3 (Nat.le_of_ble_eq_true rfl) fl22 (fun _ h9 => h9) rfl dX4_measure_20 ?_
    refine lv_istore_n (lv' := [(1, .int (nI a_st)), (0, .ref a)]) hx hb dX4_measure_23 rfl hl (Nat.le_of_ble_eq_true rfl) rfl (fun ls hl => ?_)
    refine hs_while (σ := Nat × Int32) (fun x => a_st ≤ x.1 ∧ x.1 ≤ a_be ∧ x.2 = hnv a_f a_st (x.1 - a_st)) (fun x => a_be - x.1) (fun x => [oq3 a a_bytes (nI a_len) a_kd (nI a_st) (nI a_be) (x.2), oqI k a_bytes 160 (a_f)]) (fun x => [(1, .int (nI (x.1))), (0, .ref a)]) ?_ (a_st, a_va) ?_ hP hD hS hl
    · intro x hI ih24 H locs ls hP hD hS hl
      obtain ⟨i, va⟩ := x
      try dsimp only at hI
      have hP : va_P D vwCl [oq3 a a_bytes (nI a_len) a_kd (nI a_st) (nI a_be) va, oqI k a_bytes 160 (a_f)] H := hP
      have hD : va_D A [oq3 a a_bytes (nI a_len) a_kd (nI a_st) (nI a_be) va, oqI k a_bytes 160 (a_f)] := hD
      have hl : lv_has ls 2 [(1, .int (nI i)), (0, .ref a)] := hl
      refine lv_iload_n hx hb dX4_measure_24 rfl (lv_at hl 0 rfl) ?_
      refine lv_aload_n hx hb dX4_measure_25 rfl (lv_at hl 1 rfl) ?_
      refine va_get (D := D) (ci := 3) (v := .int (nI a_be)) (C := RX4) (T := TX4) (N := 6) hx hb hts hiX4 hown hK hP 0 rfl rfl 4 (Nat.le_of_ble_eq_true rfl) fl15 (fun _ h9 => h9) rfl dX4_measure_26 ?_
      refine lv_icmp_ge (tgt := 59) hx hb dX4_measure_29 rfl (fun c_2 => ?_) (fun c_2 => ?_)
      · have nc_2 : a_be ≤ i := (nI_leI (a := a_be) (b := i) (by omega) (by omega)).mp c_2
        exact hs_vret hx hb hr hlocks hK hP hD hS (a_kd, va) [0, 1] rfl (hs_upnd rfl) dX4_measure_59 (⟨by (try dsimp only); rw [if_neg (by omega)], by (try dsimp only); rw [if_neg (by omega), hI.2.2, show i = a_be by omega]⟩)
      · have nc_2 : ¬ a_be ≤ i := fun hq9 => c_2 ((nI_leI (a := a_be) (b := i) (by omega) (by omega)).mpr hq9)
        refine lv_aload_n hx hb dX4_measure_32 rfl (lv_at hl 1 rfl) ?_
        refine lv_aload_n hx hb dX4_measure_33 rfl (lv_at hl 1 rfl) ?_
        refine va_get (D := D) (ci := 3) (v := .int va) (C := RX4) (T := TX4) (N := 6) hx hb hts hiX4 hown hK hP 0 rfl rfl 5 (Nat.le_of_ble_eq_true rfl) fl28 (fun _ h9 => h9) rfl dX4_measure_34 ?_
        refine lv_bipush (v := 10) hx hb dX4_measure_37 hkb_10 ?_
        refine lv_imul hx hb dX4_measure_39 ?_
        refine lv_aload_n hx hb dX4_measure_40 rfl (lv_at hl 1 rfl) ?_
        refine va_get (D := D) (ci := 3) (v := .ref a_bytes) (C := RX4) (T := TX4) (N := 6) hx hb hts hiX4 hown hK hP 0 rfl rfl 0 (Nat.le_of_ble_eq_true rfl) fl9 (fun _ h9 => h9) rfl dX4_measure_41 ?_
        refine lv_iload_n hx hb dX4_measure_44 rfl (lv_at hl 0 rfl) ?_
        refine va_iald hx hb hK hP 1 0 rfl rfl (vp_in_nI (show i < 160 by omega) (by decide)) dX4_measure_45 ?_
        refine hs_topi (a_f i) (by rw [nI_clamp (by omega)]) ?_
        refine lv_iadd hx hb dX4_measure_46 ?_
        refine lv_bipush (v := 48) hx hb dX4_measure_47 hkb_48 ?_
        refine lv_isub hx hb dX4_measure_49 ?_
        refine va_put (D := D) (ci := 3) (v := .int (((va * 10) + (a_f i)) - 48)) (ty := .int) (C := RX4) (T := TX4) (N := 6) hx hb hts hiX4 tyX4 tyX4_ok nmX4 hown hK hP hD hS 0 rfl rfl 5 (Nat.le_of_ble_eq_true rfl) fl28 (fun _ h9 => h9) rfl (by decide +kernel) rfl rfl (Nat.le_of_ble_eq_true rfl) dX4_measure_50 (fun H locs hP hD hS => ?_)
        have hP : va_P D vwCl [oq3 a a_bytes (nI a_len) a_kd (nI a_st) (nI a_be) (((va * 10) + (a_f i)) - 48), _] H := hP
        have hD : va_D A [oq3 a a_bytes (nI a_len) a_kd (nI a_st) (nI a_be) (((va * 10) + (a_f i)) - 48), _] := hD
        refine lv_iinc (v := nI (i + 1)) (lv' := [(1, .int (nI (i + 1))), (0, .ref a)]) hx hb dX4_measure_53 hl (k := 0) rfl (nI_add (i) 1) (Nat.le_of_ble_eq_true rfl) rfl (fun ls hl => ?_)
        refine lv_goto (tgt := 24) hx hb dX4_measure_56 rfl ?_
        exact ih24 (i + 1, ((va * 10) + (a_f i)) - 48) (by (try dsimp only); exact ⟨by omega, by omega, by rw [hnv_s (by omega), ← hI.2.2]⟩) (by (try dsimp only); omega) _ _ _ hP hD hS (lv_sub hl [0, 1] rfl)
    · (try dsimp only); exact ⟨Nat.le_refl _, by omega, by rw [Nat.sub_self]; exact hva⟩
  · have nc_1 : ¬ (a_be - a_st) ≤ 2 := fun hq9 => c_1 ((nI_leI (a := (a_be - a_st)) (b := 2) (by omega) (by omega)).mpr hq9)
    refine lv_aload_n hx hb dX4_measure_13 rfl (lv_at hl 0 rfl) ?_
    refine lv_iconst (v := 4) hx hb dX4_measure_14 hki_4 ?_
    refine va_put (D := D) (ci := 3) (v := .int 4) (ty := .int) (C := RX4) (T := TX4) (N := 6) hx hb hts hiX4 tyX4 tyX4_ok nmX4 hown hK hP hD hS 0 rfl rfl 2 (Nat.le_of_ble_eq_true rfl) fl31 (fun _ h9 => h9) rfl (by decide +kernel) rfl rfl (Nat.le_of_ble_eq_true rfl) dX4_measure_15 (fun H locs hP hD hS => ?_)
    have hP : va_P D vwCl [oq3 a a_bytes (nI a_len) 4 (nI a_st) (nI a_be) a_va, _] H := hP
    have hD : va_D A [oq3 a a_bytes (nI a_len) 4 (nI a_st) (nI a_be) a_va, _] := hD
    exact hs_vret hx hb hr hlocks hK hP hD hS (4, a_va) [0, 1] rfl (hs_upnd rfl) dX4_measure_18 (⟨by (try dsimp only); rw [if_pos (by omega)], by (try dsimp only); rw [if_pos (by omega)]; exact hva⟩)

set_option maxHeartbeats 4000000 in
set_option maxRecDepth 100000 in
theorem gf_advance (l : Launch) (D : va_G) (k : Nat → ClassId) (sz : Nat) (a : Nat) (a_bytes : Nat) (a_len : Nat) (a_kd : Int32) (a_st : Nat) (a_be : Nat) (a_va : Int32) (a_f : Nat → Int32) (hl160 : a_len ≤ 160) (hbl0 : a_be ≤ a_len) : MV l yX4_advance wsX4_advance ({ frames := 1, cells := 0, slots := 0, locals := 21 }) D k [.ref a] [oq3 a a_bytes (nI a_len) a_kd (nI a_st) (nI a_be) a_va, oqI k a_bytes 160 (a_f)] sz (fun (u : Int32 × Nat × Nat × Int32) => u = htok a_f a_len a_be ∧ u.2.1 ≤ u.2.2.1 ∧ u.2.2.1 ≤ a_len) (fun (u : Int32 × Nat × Nat × Int32) => [oq3 a a_bytes (nI a_len) u.1 (nI (u.2.1)) (nI (u.2.2.1)) u.2.2.2, oqI k a_bytes 160 (a_f)]) := by
  refine Met.ofW (cc := cX4_advance) (maxL := 1) (ret := none) hpn_X4 rfl ?_
  intro p e s m args below meth c s₁ B hml hv
  obtain ⟨rfl, hsz, hP, hK, hD0, hN⟩ := hv
  have hx := B.exec
  have hb := B.bytes
  have hr := B.returns
  have hlocks := B.notSynchronized
  have hts := atoms_spec (ws := wsX4_advance) B.pre
  have hown := findClass_of_methodNamed B.named
  have hown : s.vm.findClass RX4 = some m.cls := hown
  have hiX4 : ∀ w ∈ u_ws RX4 TX4 6, w ∈ wsX4_advance := fun w9 hw9 => List.mem_cons_of_mem _ (igX4 w9 hw9)
  have fl15 := hts (.fieldLink RX4 15 "HalfScales$Tape" "behind" "I") (List.mem_cons_of_mem _ (hs_inG 1 131 rfl rfl))
  have fl22 := hts (.fieldLink RX4 22 "HalfScales$Tape" "start" "I") (List.mem_cons_of_mem _ (hs_inG 1 129 rfl rfl))
  have fl25 := hts (.fieldLink RX4 25 "HalfScales$Tape" "length" "I") (List.mem_cons_of_mem _ (hs_inG 1 126 rfl rfl))
  have fl28 := hts (.fieldLink RX4 28 "HalfScales$Tape" "value" "I") (List.mem_cons_of_mem _ (hs_inG 1 132 rfl rfl))
  have fl9 := hts (.fieldLink RX4 9 "HalfScales$Tape" "bytes" "[I") (List.mem_cons_of_mem _ (hs_inG 1 123 rfl rfl))
  have fl31 := hts (.fieldLink RX4 31 "HalfScales$Tape" "kind" "I") (List.mem_cons_of_mem _ (hs_inG 1 128 rfl rfl))
  subst hsz
  have hD := hD0.self (sz := s.heap.size)
  generalize hAe : va_A [oq3 a a_bytes (nI a_len) a_kd (nI a_st) (nI a_be) a_va, oqI k a_bytes 160 (a_f)] s.heap.size = A at hD ⊢
  have hA : ∀ q : Nat, s.heap.size ≤ q → A q := fun q h => by rw [← hAe]; exact Or.inr h
  have hS : va_S A s.heap s.heap [] := va_S.rf
  have hl := lv_entry ([.ref a]) (n := 1) (Nat.le_of_ble_eq_true rfl)
  rw [lg_entry_eq]
  generalize (lg_sl ([.ref a]) ++ List.replicate (1 - (lg_sl ([.ref a])).length) Slot.unset).toArray = ls at hl ⊢
  have hl : lv_has ls 1 [(0, .ref a)] := hl
  have hP : va_P D vwCl [oq3 a a_bytes (nI a_len) a_kd (nI a_st) (nI a_be) a_va, oqI k a_bytes 160 (a_f)] s.heap := hP
  refine lv_aload_n hx hb dX4_advance_0 rfl (lv_at hl 0 rfl) ?_
  refine lv_aload_n hx hb dX4_advance_1 rfl (lv_at hl 0 rfl) ?_
  refine va_get (D := D) (ci := 3) (v := .int (nI a_be)) (C := RX4) (T := TX4) (N := 6) hx hb hts hiX4 hown hK hP 0 rfl rfl 4 (Nat.le_of_ble_eq_true rfl) fl15 (fun _ h9 => h9) rfl dX4_advance_2 ?_
  refine va_put (D := D) (ci := 3) (v := .int (nI a_be)) (ty := .int) (C := RX4) (T := TX4) (N := 6) hx hb hts hiX4 tyX4 tyX4_ok nmX4 hown hK hP hD hS 0 rfl rfl 3 (Nat.le_of_ble_eq_true rfl) fl22 (fun _ h9 => h9) rfl (by decide +kernel) rfl rfl (Nat.le_of_ble_eq_true rfl) dX4_advance_5 (fun H locs hP hD hS => ?_)
  have hP : va_P D vwCl [oq3 a a_bytes (nI a_len) a_kd (nI a_be) (nI a_be) a_va, oqI k a_bytes 160 (a_f)] H := hP
  have hD : va_D A [oq3 a a_bytes (nI a_len) a_kd (nI a_be) (nI a_be) a_va, oqI k a_bytes 160 (a_f)] := hD
  refine hs_while (σ := Nat) (fun x => a_be ≤ x ∧ x ≤ a_len ∧ hrun (hsp a_f) a_len x = hrun (hsp a_f) a_len a_be) (fun x => a_len - x) (fun x => [oq3 a a_bytes (nI a_len) a_kd (nI (x)) (nI a_be) a_va, oqI k a_bytes 160 (a_f)]) (fun x => [(0, .ref a)]) ?_ (a_be) ?_ hP hD hS hl
  · intro x hI ih8 H locs ls hP hD hS hl
    obtain ⟨sx, rfl⟩ : ∃ z, z = x := ⟨_, rfl⟩
    try dsimp only at hI
    have hP : va_P D vwCl [oq3 a a_bytes (nI a_len) a_kd (nI sx) (nI a_be) a_va, _] H := hP
    have hD : va_D A [oq3 a a_bytes (nI a_len) a_kd (nI sx) (nI a_be) a_va, _] := hD
    have hl : lv_has ls 1 [(0, .ref a)] := hl
    refine lv_aload_n hx hb dX4_advance_8 rfl (lv_at hl 0 rfl) ?_
    refine va_get (D := D) (ci := 3) (v := .int (nI sx)) (C := RX4) (T := TX4) (N := 6) hx hb hts hiX4 hown hK hP 0 rfl rfl 3 (Nat.le_of_ble_eq_true rfl) fl22 (fun _ h9 => h9) rfl dX4_advance_9 ?_
    refine lv_aload_n hx hb dX4_advance_12 rfl (lv_at hl 0 rfl) ?_
    refine va_get (D := D) (ci := 3) (v := .int (nI a_len)) (C := RX4) (T := TX4) (N := 6) hx hb hts hiX4 hown hK hP 0 rfl rfl 1 (Nat.le_of_ble_eq_true rfl) fl25 (fun _ h9 => h9) rfl dX4_advance_13 ?_
    refine lv_icmp_ge (tgt := 46) hx hb dX4_advance_16 rfl (fun c_1 => ?_) (fun c_1 => ?_)
    · have nc_1 : a_len ≤ sx := (nI_leI (a := a_len) (b := sx) (by omega) (by omega)).mp c_1
      have hS0 : htS a_f a_len a_be = sx := hI.2.2.symm.trans (hrun_stop (fun h9 => absurd h9.1 (by omega)))
      refine lv_aload_n hx hb dX4_advance_46 rfl (lv_at hl 0 rfl) ?_
      refine lv_aload_n hx hb dX4_advance_47 rfl (lv_at hl 0 rfl) ?_
      refine va_get (D := D) (ci := 3) (v := .int (nI sx)) (C := RX4) (T := TX4) (N := 6) hx hb hts hiX4 hown hK hP 0 rfl rfl 3 (Nat.le_of_ble_eq_true rfl) fl22 (fun _ h9 => h9) rfl dX4_advance_48 ?_
      refine va_put (D := D) (ci := 3) (v := .int (nI sx)) (ty := .int) (C := RX4) (T := TX4) (N := 6) hx hb hts hiX4 tyX4 tyX4_ok nmX4 hown hK hP hD hS 0 rfl rfl 4 (Nat.le_of_ble_eq_true rfl) fl15 (fun _ h9 => h9) rfl (by decide +kernel) rfl rfl (Nat.le_of_ble_eq_true rfl) dX4_advance_51 (fun H locs hP hD hS => ?_)
      have hP : va_P D vwCl [oq3 a a_bytes (nI a_len) a_kd (nI sx) (nI sx) a_va, _] H := hP
      have hD : va_D A [oq3 a a_bytes (nI a_len) a_kd (nI sx) (nI sx) a_va, _] := hD
      refine lv_aload_n hx hb dX4_advance_54 rfl (lv_at hl 0 rfl) ?_
      refine lv_iconst (v := 0) hx hb dX4_advance_55 hki_0 ?_
      refine va_put (D := D) (ci := 3) (v := .int 0) (ty := .int) (C := RX4) (T := TX4) (N := 6) hx hb hts hiX4 tyX4 tyX4_ok nmX4 hown hK hP hD hS 0 rfl rfl 5 (Nat.le_of_ble_eq_true rfl) fl28 (fun _ h9 => h9) rfl (by decide +kernel) rfl rfl (Nat.le_of_ble_eq_true rfl) dX4_advance_56 (fun H locs hP hD hS => ?_)
      have hP : va_P D vwCl [oq3 a a_bytes (nI a_len) a_kd (nI sx) (nI sx) 0, _] H := hP
      have hD : va_D A [oq3 a a_bytes (nI a_len) a_kd (nI sx) (nI sx) 0, _] := hD
      refine lv_aload_n hx hb dX4_advance_59 rfl (lv_at hl 0 rfl) ?_
      refine va_get (D := D) (ci := 3) (v := .int (nI sx)) (C := RX4) (T := TX4) (N := 6) hx hb hts hiX4 hown hK hP 0 rfl rfl 3 (Nat.le_of_ble_eq_true rfl) fl22 (fun _ h9 => h9) rfl dX4_advance_60 ?_
      refine lv_aload_n hx hb dX4_advance_63 rfl (lv_at hl 0 rfl) ?_
      refine va_get (D := D) (ci := 3) (v := .int (nI a_len)) (C := RX4) (T := TX4) (N := 6) hx hb hts hiX4 hown hK hP 0 rfl rfl 1 (Nat.le_of_ble_eq_true rfl) fl25 (fun _ h9 => h9) rfl dX4_advance_64 ?_
      refine lv_icmp_lt (tgt := 76) hx hb dX4_advance_67 rfl (fun c_2 => ?_) (fun c_2 => ?_)
      · have nc_2 : sx < a_len := (nI_ltI (a := sx) (b := a_len) (by omega) (by omega)).mp c_2
        refine lv_aload_n hx hb dX4_advance_76 rfl (lv_at hl 0 rfl) ?_
        refine lv_aload_n hx hb dX4_advance_77 rfl (lv_at hl 0 rfl) ?_
        refine va_get (D := D) (ci := 3) (v := .ref a_bytes) (C := RX4) (T := TX4) (N := 6) hx hb hts hiX4 hown hK hP 0 rfl rfl 0 (Nat.le_of_ble_eq_true rfl) fl9 (fun _ h9 => h9) rfl dX4_advance_78 ?_
        refine lv_aload_n hx hb dX4_advance_81 rfl (lv_at hl 0 rfl) ?_
        refine va_get (D := D) (ci := 3) (v := .int (nI sx)) (C := RX4) (T := TX4) (N := 6) hx hb hts hiX4 hown hK hP 0 rfl rfl 3 (Nat.le_of_ble_eq_true rfl) fl22 (fun _ h9 => h9) rfl dX4_advance_82 ?_
        refine va_iald hx hb hK hP 1 0 rfl rfl (vp_in_nI (show sx < 160 by omega) (by decide)) dX4_advance_85 ?_
        refine hs_topi (a_f sx) (by rw [nI_clamp (by omega)]) ?_
        refine hs_pi (va_runS (As := [.int (a_f sx)]) (rest := [.ref a]) ⟨hx, hb, hml, hown, hts⟩ (gf_kindOfSign l D k _ (a_f sx)) (va_cwS 1 hts gX4_advance_X4_kindOfSign rfl rfl rfl hq_X4_kindOfSign ⟨Nat.le_of_ble_eq_true rfl, Nat.le_of_ble_eq_true rfl⟩) (hs_preS hK hN (hs_subP (w := []) hP [] rfl) (hD.sub (ws' := []) [] rfl rfl)) rfl rfl hl.1 rfl (lv_room (Nat.le_of_ble_eq_true rfl)) dX4_advance_86 ⟨Nat.le_of_ble_eq_true rfl, Nat.le_of_ble_eq_true rfl⟩) hP hD hS hA (fun r_3 u_5 H locs hw_4 hP hS => ?_)
        refine hs_topi (hks (a_f sx)) hw_4 ?_
        refine va_put (D := D) (ci := 3) (v := .int (hks (a_f sx))) (ty := .int) (C := RX4) (T := TX4) (N := 6) hx hb hts hiX4 tyX4 tyX4_ok nmX4 hown hK hP hD hS 0 rfl rfl 2 (Nat.le_of_ble_eq_true rfl) fl31 (fun _ h9 => h9) rfl (by decide +kernel) rfl rfl (Nat.le_of_ble_eq_true rfl) dX4_advance_89 (fun H locs hP hD hS => ?_)
        have hP : va_P D vwCl [oq3 a a_bytes (nI a_len) (hks (a_f sx)) (nI sx) (nI sx) 0, _] H := hP
        have hD : va_D A [oq3 a a_bytes (nI a_len) (hks (a_f sx)) (nI sx) (nI sx) 0, _] := hD
        refine hs_while (σ := Nat) (fun x => sx ≤ x ∧ x < a_len ∧ hks (a_f x) = hks (a_f sx) ∧ (sx < x → hsL (hks (a_f sx)) = true) ∧ hrun (hsk a_f (hks (a_f sx))) a_len x = hrun (hsk a_f (hks (a_f sx))) a_len sx) (fun x => a_len - x) (fun x => [oq3 a a_bytes (nI a_len) (hks (a_f sx)) (nI sx) (nI (x)) 0, oqI k a_bytes 160 (a_f)]) (fun x => [(0, .ref a)]) ?_ (sx) ?_ hP hD hS hl
        · intro x hI ih92 H locs ls hP hD hS hl
          obtain ⟨bx, rfl⟩ : ∃ z, z = x := ⟨_, rfl⟩
          try dsimp only at hI
          have hP : va_P D vwCl [oq3 a a_bytes (nI a_len) (hks (a_f sx)) (nI sx) (nI bx) 0, _] H := hP
          have hD : va_D A [oq3 a a_bytes (nI a_len) (hks (a_f sx)) (nI sx) (nI bx) 0, _] := hD
          have hl : lv_has ls 1 [(0, .ref a)] := hl
          refine lv_aload_n hx hb dX4_advance_92 rfl (lv_at hl 0 rfl) ?_
          refine lv_dup hx hb dX4_advance_93 rfl ?_
          refine va_get (D := D) (ci := 3) (v := .int (nI bx)) (C := RX4) (T := TX4) (N := 6) hx hb hts hiX4 hown hK hP 0 rfl rfl 4 (Nat.le_of_ble_eq_true rfl) fl15 (fun _ h9 => h9) rfl dX4_advance_94 ?_
          refine lv_iconst (v := 1) hx hb dX4_advance_97 hki_1 ?_
          refine lv_iadd hx hb dX4_advance_98 ?_
          refine hs_topi (nI (bx + 1)) (nI_add (bx) (1)) ?_
          refine va_put (D := D) (ci := 3) (v := .int (nI (bx + 1))) (ty := .int) (C := RX4) (T := TX4) (N := 6) hx hb hts hiX4 tyX4 tyX4_ok nmX4 hown hK hP hD hS 0 rfl rfl 4 (Nat.le_of_ble_eq_true rfl) fl15 (fun _ h9 => h9) rfl (by decide +kernel) rfl rfl (Nat.le_of_ble_eq_true rfl) dX4_advance_99 (fun H locs hP hD hS => ?_)
          have hP : va_P D vwCl [oq3 a a_bytes (nI a_len) (hks (a_f sx)) (nI sx) (nI (bx + 1)) 0, _] H := hP
          have hD : va_D A [oq3 a a_bytes (nI a_len) (hks (a_f sx)) (nI sx) (nI (bx + 1)) 0, _] := hD
          refine lv_aload_n hx hb dX4_advance_102 rfl (lv_at hl 0 rfl) ?_
          refine hs_ciM (va_runV (As := []) (rest := []) ⟨hx, hb, hml, hown, hts⟩ (gf_isLong l D k _ a a_bytes a_len (hks (a_f sx)) sx (bx + 1) 0) (cwV 0 hts gX4_advance_X4_isLong rfl rfl rfl ⟨rfl, hq_X4_isLong⟩ ⟨Nat.le_of_ble_eq_true rfl, Nat.le_of_ble_eq_true rfl⟩) (hs_preV hK hN (hs_subP (w := [_]) hP [0] rfl) (hD.sub (ws' := [_]) [0] (hs_upnd rfl) rfl) (ci := 3) (q0 := 0) rfl rfl) rfl rfl hl.1 rfl (lv_room (Nat.le_of_ble_eq_true rfl)) dX4_advance_103 ⟨Nat.le_of_ble_eq_true rfl, Nat.le_of_ble_eq_true rfl⟩) hP hD hS hA [false, true] [_] [_] rfl [0] rfl [0] (fun u_8 => [_]) (fun _ => rfl) (hs_upnd rfl) [false, true] (fun u_8 => [_, _]) (fun _ => rfl) (fun r_6 u_8 H locs hw_7 hP hD hS => ?_)
          refine hs_topi (hsb (hsL (hks (a_f sx)))) hw_7 ?_
          refine lv_if_eq (tgt := 139) hx hb dX4_advance_106 rfl (fun c_9 => ?_) (fun c_9 => ?_)
          · have hnl := hs_n0 c_9
            have hbs : bx = sx := Nat.le_antisymm (Nat.le_of_not_lt (fun h9 => absurd (hI.2.2.2.1 h9) (by rw [hnl]; decide))) hI.1
            have hB : htB a_f a_len sx = bx + 1 := by rw [hbs]; exact htB_one (by omega) hnl
            refine lv_aload_n hx hb dX4_advance_139 rfl (lv_at hl 0 rfl) ?_
            refine va_get (D := D) (ci := 3) (v := .int (hks (a_f sx))) (C := RX4) (T := TX4) (N := 6) hx hb hts hiX4 hown hK hP 0 rfl rfl 2 (Nat.le_of_ble_eq_true rfl) fl31 (fun _ h9 => h9) rfl dX4_advance_140 ?_
            refine lv_iconst (v := 2) hx hb dX4_advance_143 hki_2 ?_
            refine lv_icmp_ne (tgt := 151) hx hb dX4_advance_144 rfl (fun c_10 => ?_) (fun c_10 => ?_)
            · exact hs_vret hx hb hr hlocks hK hP hD hS (hks (a_f sx), sx, bx + 1, 0) [0, 1] rfl (hs_upnd rfl) dX4_advance_151 (⟨htok_of hS0 (htK_in (by omega) (fun h9 => c_10 h9.1)) hB (htV_no (by rw [htK_in (by omega) (fun h9 => c_10 h9.1)]; exact c_10)), by (try dsimp only); omega, by (try dsimp only); omega⟩)
            · refine lv_aload_n hx hb dX4_advance_147 rfl (lv_at hl 0 rfl) ?_
              refine hs_cvM (va_runV (As := []) (rest := []) ⟨hx, hb, hml, hown, hts⟩ (gf_measure l D k _ a a_bytes a_len (hks (a_f sx)) sx (bx + 1) 0 a_f (by omega) (by omega) rfl) (cwV 0 hts gX4_advance_X4_measure rfl rfl rfl ⟨rfl, hq_X4_measure⟩ ⟨Nat.le_of_ble_eq_true rfl, Nat.le_of_ble_eq_true rfl⟩) (hs_preV hK hN (hs_subP (w := [_, _]) hP [0, 1] rfl) (hD.sub (ws' := [_, _]) [0, 1] (hs_upnd rfl) rfl) (ci := 3) (q0 := 0) rfl rfl) rfl rfl hl.1 rfl (lv_room (Nat.le_of_ble_eq_true rfl)) dX4_advance_148 ⟨Nat.le_of_ble_eq_true rfl, Nat.le_of_ble_eq_true rfl⟩) hP hD hS hA [false, false] [] [_, _] rfl [0, 1] rfl [0, 1] (fun u_13 => [_, _]) (fun _ => rfl) (hs_upnd rfl) [false, false] (fun u_13 => [_, _]) (fun _ => rfl) (fun u_13 H locs hw_12 hP hD hS => ?_)
              have hw_12 : u_13.1 = (if 2 < (bx + 1) - sx then 4 else (hks (a_f sx))) ∧ u_13.2 = (if 2 < (bx + 1) - sx then 0 else hnv a_f sx ((bx + 1) - sx)) := hw_12
              exact hs_vret hx hb hr hlocks hK hP hD hS (u_13.1, sx, bx + 1, u_13.2) [0, 1] rfl (hs_upnd rfl) dX4_advance_151 (⟨htok_of hS0 (htK_num (by omega) c_10 hB hw_12.1) hB (htV_num (by omega) c_10 hB hw_12.2), by (try dsimp only); omega, by (try dsimp only); omega⟩)
          · refine lv_aload_n hx hb dX4_advance_109 rfl (lv_at hl 0 rfl) ?_
            refine va_get (D := D) (ci := 3) (v := .int (nI (bx + 1))) (C := RX4) (T := TX4) (N := 6) hx hb hts hiX4 hown hK hP 0 rfl rfl 4 (Nat.le_of_ble_eq_true rfl) fl15 (fun _ h9 => h9) rfl dX4_advance_110 ?_
            refine lv_aload_n hx hb dX4_advance_113 rfl (lv_at hl 0 rfl) ?_
            refine va_get (D := D) (ci := 3) (v := .int (nI a_len)) (C := RX4) (T := TX4) (N := 6) hx hb hts hiX4 hown hK hP 0 rfl rfl 1 (Nat.le_of_ble_eq_true rfl) fl25 (fun _ h9 => h9) rfl dX4_advance_114 ?_
            refine lv_icmp_ge (tgt := 139) hx hb dX4_advance_117 rfl (fun c_14 => ?_) (fun c_14 => ?_)
            · have nc_14 : a_len ≤ (bx + 1) := (nI_leI (a := a_len) (b := (bx + 1)) (by omega) (by omega)).mp c_14
              have hB : htB a_f a_len sx = bx + 1 := htB_run (by omega) (hs_nb c_9) (hI.2.2.2.2.symm.trans ((hrun_step (by omega) (decide_eq_true hI.2.2.1)).trans (hrun_stop (fun h9 => absurd h9.1 (by omega)))))
              refine lv_aload_n hx hb dX4_advance_139 rfl (lv_at hl 0 rfl) ?_
              refine va_get (D := D) (ci := 3) (v := .int (hks (a_f sx))) (C := RX4) (T := TX4) (N := 6) hx hb hts hiX4 hown hK hP 0 rfl rfl 2 (Nat.le_of_ble_eq_true rfl) fl31 (fun _ h9 => h9) rfl dX4_advance_140 ?_
              refine lv_iconst (v := 2) hx hb dX4_advance_143 hki_2 ?_
              refine lv_icmp_ne (tgt := 151) hx hb dX4_advance_144 rfl (fun c_15 => ?_) (fun c_15 => ?_)
              · exact hs_vret hx hb hr hlocks hK hP hD hS (hks (a_f sx), sx, bx + 1, 0) [0, 1] rfl (hs_upnd rfl) dX4_advance_151 (⟨htok_of hS0 (htK_in (by omega) (fun h9 => c_15 h9.1)) hB (htV_no (by rw [htK_in (by omega) (fun h9 => c_15 h9.1)]; exact c_15)), by (try dsimp only); omega, by (try dsimp only); omega⟩)
              · refine lv_aload_n hx hb dX4_advance_147 rfl (lv_at hl 0 rfl) ?_
                refine hs_cvM (va_runV (As := []) (rest := []) ⟨hx, hb, hml, hown, hts⟩ (gf_measure l D k _ a a_bytes a_len (hks (a_f sx)) sx (bx + 1) 0 a_f (by omega) (by omega) rfl) (cwV 0 hts gX4_advance_X4_measure rfl rfl rfl ⟨rfl, hq_X4_measure⟩ ⟨Nat.le_of_ble_eq_true rfl, Nat.le_of_ble_eq_true rfl⟩) (hs_preV hK hN (hs_subP (w := [_, _]) hP [0, 1] rfl) (hD.sub (ws' := [_, _]) [0, 1] (hs_upnd rfl) rfl) (ci := 3) (q0 := 0) rfl rfl) rfl rfl hl.1 rfl (lv_room (Nat.le_of_ble_eq_true rfl)) dX4_advance_148 ⟨Nat.le_of_ble_eq_true rfl, Nat.le_of_ble_eq_true rfl⟩) hP hD hS hA [false, false] [] [_, _] rfl [0, 1] rfl [0, 1] (fun u_18 => [_, _]) (fun _ => rfl) (hs_upnd rfl) [false, false] (fun u_18 => [_, _]) (fun _ => rfl) (fun u_18 H locs hw_17 hP hD hS => ?_)
                have hw_17 : u_18.1 = (if 2 < (bx + 1) - sx then 4 else (hks (a_f sx))) ∧ u_18.2 = (if 2 < (bx + 1) - sx then 0 else hnv a_f sx ((bx + 1) - sx)) := hw_17
                exact hs_vret hx hb hr hlocks hK hP hD hS (u_18.1, sx, bx + 1, u_18.2) [0, 1] rfl (hs_upnd rfl) dX4_advance_151 (⟨htok_of hS0 (htK_num (by omega) c_15 hB hw_17.1) hB (htV_num (by omega) c_15 hB hw_17.2), by (try dsimp only); omega, by (try dsimp only); omega⟩)
            · have nc_14 : ¬ a_len ≤ (bx + 1) := fun hq9 => c_14 ((nI_leI (a := a_len) (b := (bx + 1)) (by omega) (by omega)).mpr hq9)
              refine lv_aload_n hx hb dX4_advance_120 rfl (lv_at hl 0 rfl) ?_
              refine va_get (D := D) (ci := 3) (v := .ref a_bytes) (C := RX4) (T := TX4) (N := 6) hx hb hts hiX4 hown hK hP 0 rfl rfl 0 (Nat.le_of_ble_eq_true rfl) fl9 (fun _ h9 => h9) rfl dX4_advance_121 ?_
              refine lv_aload_n hx hb dX4_advance_124 rfl (lv_at hl 0 rfl) ?_
              refine va_get (D := D) (ci := 3) (v := .int (nI (bx + 1))) (C := RX4) (T := TX4) (N := 6) hx hb hts hiX4 hown hK hP 0 rfl rfl 4 (Nat.le_of_ble_eq_true rfl) fl15 (fun _ h9 => h9) rfl dX4_advance_125 ?_
              refine va_iald hx hb hK hP 1 0 rfl rfl (vp_in_nI (show (bx + 1) < 160 by omega) (by decide)) dX4_advance_128 ?_
              refine hs_topi (a_f (bx + 1)) (by rw [nI_clamp (by omega)]) ?_
              refine hs_pi (va_runS (As := [.int (a_f (bx + 1))]) (rest := []) ⟨hx, hb, hml, hown, hts⟩ (gf_kindOfSign l D k _ (a_f (bx + 1))) (va_cwS 1 hts gX4_advance_X4_kindOfSign rfl rfl rfl hq_X4_kindOfSign ⟨Nat.le_of_ble_eq_true rfl, Nat.le_of_ble_eq_true rfl⟩) (hs_preS hK hN (hs_subP (w := []) hP [] rfl) (hD.sub (ws' := []) [] rfl rfl)) rfl rfl hl.1 rfl (lv_room (Nat.le_of_ble_eq_true rfl)) dX4_advance_129 ⟨Nat.le_of_ble_eq_true rfl, Nat.le_of_ble_eq_true rfl⟩) hP hD hS hA (fun r_19 u_21 H locs hw_20 hP hS => ?_)
              refine hs_topi (hks (a_f (bx + 1))) hw_20 ?_
              refine lv_aload_n hx hb dX4_advance_132 rfl (lv_at hl 0 rfl) ?_
              refine va_get (D := D) (ci := 3) (v := .int (hks (a_f sx))) (C := RX4) (T := TX4) (N := 6) hx hb hts hiX4 hown hK hP 0 rfl rfl 2 (Nat.le_of_ble_eq_true rfl) fl31 (fun _ h9 => h9) rfl dX4_advance_133 ?_
              refine lv_icmp_eq (tgt := 92) hx hb dX4_advance_136 rfl (fun c_22 => ?_) (fun c_22 => ?_)
              · exact ih92 (bx + 1) (by (try dsimp only); exact ⟨by omega, by omega, c_22, fun _ => hs_nb c_9, (hrun_step (by omega) (decide_eq_true hI.2.2.1)).symm.trans hI.2.2.2.2⟩) (by (try dsimp only); omega) _ _ _ hP hD hS (lv_sub hl [0] rfl)
              · have hB : htB a_f a_len sx = bx + 1 := htB_run (by omega) (hs_nb c_9) (hI.2.2.2.2.symm.trans ((hrun_step (by omega) (decide_eq_true hI.2.2.1)).trans (hrun_stop (fun h9 => c_22 (of_decide_eq_true h9.2)))))
                refine lv_aload_n hx hb dX4_advance_139 rfl (lv_at hl 0 rfl) ?_
                refine va_get (D := D) (ci := 3) (v := .int (hks (a_f sx))) (C := RX4) (T := TX4) (N := 6) hx hb hts hiX4 hown hK hP 0 rfl rfl 2 (Nat.le_of_ble_eq_true rfl) fl31 (fun _ h9 => h9) rfl dX4_advance_140 ?_
                refine lv_iconst (v := 2) hx hb dX4_advance_143 hki_2 ?_
                refine lv_icmp_ne (tgt := 151) hx hb dX4_advance_144 rfl (fun c_23 => ?_) (fun c_23 => ?_)
                · exact hs_vret hx hb hr hlocks hK hP hD hS (hks (a_f sx), sx, bx + 1, 0) [0, 1] rfl (hs_upnd rfl) dX4_advance_151 (⟨htok_of hS0 (htK_in (by omega) (fun h9 => c_23 h9.1)) hB (htV_no (by rw [htK_in (by omega) (fun h9 => c_23 h9.1)]; exact c_23)), by (try dsimp only); omega, by (try dsimp only); omega⟩)
                · refine lv_aload_n hx hb dX4_advance_147 rfl (lv_at hl 0 rfl) ?_
                  refine hs_cvM (va_runV (As := []) (rest := []) ⟨hx, hb, hml, hown, hts⟩ (gf_measure l D k _ a a_bytes a_len (hks (a_f sx)) sx (bx + 1) 0 a_f (by omega) (by omega) rfl) (cwV 0 hts gX4_advance_X4_measure rfl rfl rfl ⟨rfl, hq_X4_measure⟩ ⟨Nat.le_of_ble_eq_true rfl, Nat.le_of_ble_eq_true rfl⟩) (hs_preV hK hN (hs_subP (w := [_, _]) hP [0, 1] rfl) (hD.sub (ws' := [_, _]) [0, 1] (hs_upnd rfl) rfl) (ci := 3) (q0 := 0) rfl rfl) rfl rfl hl.1 rfl (lv_room (Nat.le_of_ble_eq_true rfl)) dX4_advance_148 ⟨Nat.le_of_ble_eq_true rfl, Nat.le_of_ble_eq_true rfl⟩) hP hD hS hA [false, false] [] [_, _] rfl [0, 1] rfl [0, 1] (fun u_26 => [_, _]) (fun _ => rfl) (hs_upnd rfl) [false, false] (fun u_26 => [_, _]) (fun _ => rfl) (fun u_26 H locs hw_25 hP hD hS => ?_)
                  have hw_25 : u_26.1 = (if 2 < (bx + 1) - sx then 4 else (hks (a_f sx))) ∧ u_26.2 = (if 2 < (bx + 1) - sx then 0 else hnv a_f sx ((bx + 1) - sx)) := hw_25
                  exact hs_vret hx hb hr hlocks hK hP hD hS (u_26.1, sx, bx + 1, u_26.2) [0, 1] rfl (hs_upnd rfl) dX4_advance_151 (⟨htok_of hS0 (htK_num (by omega) c_23 hB hw_25.1) hB (htV_num (by omega) c_23 hB hw_25.2), by (try dsimp only); omega, by (try dsimp only); omega⟩)
        · (try dsimp only); exact ⟨Nat.le_refl _, by omega, rfl, fun h9 => absurd h9 (Nat.lt_irrefl _), rfl⟩
      · have nc_2 : ¬ sx < a_len := fun hq9 => c_2 ((nI_ltI (a := sx) (b := a_len) (by omega) (by omega)).mpr hq9)
        refine lv_aload_n hx hb dX4_advance_70 rfl (lv_at hl 0 rfl) ?_
        refine lv_iconst (v := 0) hx hb dX4_advance_71 hki_0 ?_
        refine va_put (D := D) (ci := 3) (v := .int 0) (ty := .int) (C := RX4) (T := TX4) (N := 6) hx hb hts hiX4 tyX4 tyX4_ok nmX4 hown hK hP hD hS 0 rfl rfl 2 (Nat.le_of_ble_eq_true rfl) fl31 (fun _ h9 => h9) rfl (by decide +kernel) rfl rfl (Nat.le_of_ble_eq_true rfl) dX4_advance_72 (fun H locs hP hD hS => ?_)
        have hP : va_P D vwCl [oq3 a a_bytes (nI a_len) 0 (nI sx) (nI sx) 0, _] H := hP
        have hD : va_D A [oq3 a a_bytes (nI a_len) 0 (nI sx) (nI sx) 0, _] := hD
        exact hs_vret hx hb hr hlocks hK hP hD hS (0, sx, sx, 0) [0, 1] rfl (hs_upnd rfl) dX4_advance_75 (⟨htok_of hS0 (htK_end (by omega)) (htB_end (by omega)) (htV_no (by rw [htK_end (by omega)]; decide)), by (try dsimp only); omega, by (try dsimp only); omega⟩)
    · have nc_1 : ¬ a_len ≤ sx := fun hq9 => c_1 ((nI_leI (a := a_len) (b := sx) (by omega) (by omega)).mpr hq9)
      refine lv_aload_n hx hb dX4_advance_19 rfl (lv_at hl 0 rfl) ?_
      refine va_get (D := D) (ci := 3) (v := .ref a_bytes) (C := RX4) (T := TX4) (N := 6) hx hb hts hiX4 hown hK hP 0 rfl rfl 0 (Nat.le_of_ble_eq_true rfl) fl9 (fun _ h9 => h9) rfl dX4_advance_20 ?_
      refine lv_aload_n hx hb dX4_advance_23 rfl (lv_at hl 0 rfl) ?_
      refine va_get (D := D) (ci := 3) (v := .int (nI sx)) (C := RX4) (T := TX4) (N := 6) hx hb hts hiX4 hown hK hP 0 rfl rfl 3 (Nat.le_of_ble_eq_true rfl) fl22 (fun _ h9 => h9) rfl dX4_advance_24 ?_
      refine va_iald hx hb hK hP 1 0 rfl rfl (vp_in_nI (show sx < 160 by omega) (by decide)) dX4_advance_27 ?_
      refine hs_topi (a_f sx) (by rw [nI_clamp (by omega)]) ?_
      refine lv_bipush (v := 32) hx hb dX4_advance_28 hkb_32 ?_
      refine lv_icmp_ne (tgt := 46) hx hb dX4_advance_30 rfl (fun c_27 => ?_) (fun c_27 => ?_)
      · have hS0 : htS a_f a_len a_be = sx := hI.2.2.symm.trans (hrun_stop (fun h9 => c_27 (of_decide_eq_true h9.2)))
        refine lv_aload_n hx hb dX4_advance_46 rfl (lv_at hl 0 rfl) ?_
        refine lv_aload_n hx hb dX4_advance_47 rfl (lv_at hl 0 rfl) ?_
        refine va_get (D := D) (ci := 3) (v := .int (nI sx)) (C := RX4) (T := TX4) (N := 6) hx hb hts hiX4 hown hK hP 0 rfl rfl 3 (Nat.le_of_ble_eq_true rfl) fl22 (fun _ h9 => h9) rfl dX4_advance_48 ?_
        refine va_put (D := D) (ci := 3) (v := .int (nI sx)) (ty := .int) (C := RX4) (T := TX4) (N := 6) hx hb hts hiX4 tyX4 tyX4_ok nmX4 hown hK hP hD hS 0 rfl rfl 4 (Nat.le_of_ble_eq_true rfl) fl15 (fun _ h9 => h9) rfl (by decide +kernel) rfl rfl (Nat.le_of_ble_eq_true rfl) dX4_advance_51 (fun H locs hP hD hS => ?_)
        have hP : va_P D vwCl [oq3 a a_bytes (nI a_len) a_kd (nI sx) (nI sx) a_va, _] H := hP
        have hD : va_D A [oq3 a a_bytes (nI a_len) a_kd (nI sx) (nI sx) a_va, _] := hD
        refine lv_aload_n hx hb dX4_advance_54 rfl (lv_at hl 0 rfl) ?_
        refine lv_iconst (v := 0) hx hb dX4_advance_55 hki_0 ?_
        refine va_put (D := D) (ci := 3) (v := .int 0) (ty := .int) (C := RX4) (T := TX4) (N := 6) hx hb hts hiX4 tyX4 tyX4_ok nmX4 hown hK hP hD hS 0 rfl rfl 5 (Nat.le_of_ble_eq_true rfl) fl28 (fun _ h9 => h9) rfl (by decide +kernel) rfl rfl (Nat.le_of_ble_eq_true rfl) dX4_advance_56 (fun H locs hP hD hS => ?_)
        have hP : va_P D vwCl [oq3 a a_bytes (nI a_len) a_kd (nI sx) (nI sx) 0, _] H := hP
        have hD : va_D A [oq3 a a_bytes (nI a_len) a_kd (nI sx) (nI sx) 0, _] := hD
        refine lv_aload_n hx hb dX4_advance_59 rfl (lv_at hl 0 rfl) ?_
        refine va_get (D := D) (ci := 3) (v := .int (nI sx)) (C := RX4) (T := TX4) (N := 6) hx hb hts hiX4 hown hK hP 0 rfl rfl 3 (Nat.le_of_ble_eq_true rfl) fl22 (fun _ h9 => h9) rfl dX4_advance_60 ?_
        refine lv_aload_n hx hb dX4_advance_63 rfl (lv_at hl 0 rfl) ?_
        refine va_get (D := D) (ci := 3) (v := .int (nI a_len)) (C := RX4) (T := TX4) (N := 6) hx hb hts hiX4 hown hK hP 0 rfl rfl 1 (Nat.le_of_ble_eq_true rfl) fl25 (fun _ h9 => h9) rfl dX4_advance_64 ?_
        refine lv_icmp_lt (tgt := 76) hx hb dX4_advance_67 rfl (fun c_28 => ?_) (fun c_28 => ?_)
        · have nc_28 : sx < a_len := (nI_ltI (a := sx) (b := a_len) (by omega) (by omega)).mp c_28
          refine lv_aload_n hx hb dX4_advance_76 rfl (lv_at hl 0 rfl) ?_
          refine lv_aload_n hx hb dX4_advance_77 rfl (lv_at hl 0 rfl) ?_
          refine va_get (D := D) (ci := 3) (v := .ref a_bytes) (C := RX4) (T := TX4) (N := 6) hx hb hts hiX4 hown hK hP 0 rfl rfl 0 (Nat.le_of_ble_eq_true rfl) fl9 (fun _ h9 => h9) rfl dX4_advance_78 ?_
          refine lv_aload_n hx hb dX4_advance_81 rfl (lv_at hl 0 rfl) ?_
          refine va_get (D := D) (ci := 3) (v := .int (nI sx)) (C := RX4) (T := TX4) (N := 6) hx hb hts hiX4 hown hK hP 0 rfl rfl 3 (Nat.le_of_ble_eq_true rfl) fl22 (fun _ h9 => h9) rfl dX4_advance_82 ?_
          refine va_iald hx hb hK hP 1 0 rfl rfl (vp_in_nI (show sx < 160 by omega) (by decide)) dX4_advance_85 ?_
          refine hs_topi (a_f sx) (by rw [nI_clamp (by omega)]) ?_
          refine hs_pi (va_runS (As := [.int (a_f sx)]) (rest := [.ref a]) ⟨hx, hb, hml, hown, hts⟩ (gf_kindOfSign l D k _ (a_f sx)) (va_cwS 1 hts gX4_advance_X4_kindOfSign rfl rfl rfl hq_X4_kindOfSign ⟨Nat.le_of_ble_eq_true rfl, Nat.le_of_ble_eq_true rfl⟩) (hs_preS hK hN (hs_subP (w := []) hP [] rfl) (hD.sub (ws' := []) [] rfl rfl)) rfl rfl hl.1 rfl (lv_room (Nat.le_of_ble_eq_true rfl)) dX4_advance_86 ⟨Nat.le_of_ble_eq_true rfl, Nat.le_of_ble_eq_true rfl⟩) hP hD hS hA (fun r_29 u_31 H locs hw_30 hP hS => ?_)
          refine hs_topi (hks (a_f sx)) hw_30 ?_
          refine va_put (D := D) (ci := 3) (v := .int (hks (a_f sx))) (ty := .int) (C := RX4) (T := TX4) (N := 6) hx hb hts hiX4 tyX4 tyX4_ok nmX4 hown hK hP hD hS 0 rfl rfl 2 (Nat.le_of_ble_eq_true rfl) fl31 (fun _ h9 => h9) rfl (by decide +kernel) rfl rfl (Nat.le_of_ble_eq_true rfl) dX4_advance_89 (fun H locs hP hD hS => ?_)
          have hP : va_P D vwCl [oq3 a a_bytes (nI a_len) (hks (a_f sx)) (nI sx) (nI sx) 0, _] H := hP
          have hD : va_D A [oq3 a a_bytes (nI a_len) (hks (a_f sx)) (nI sx) (nI sx) 0, _] := hD
          refine hs_while (σ := Nat) (fun x => sx ≤ x ∧ x < a_len ∧ hks (a_f x) = hks (a_f sx) ∧ (sx < x → hsL (hks (a_f sx)) = true) ∧ hrun (hsk a_f (hks (a_f sx))) a_len x = hrun (hsk a_f (hks (a_f sx))) a_len sx) (fun x => a_len - x) (fun x => [oq3 a a_bytes (nI a_len) (hks (a_f sx)) (nI sx) (nI (x)) 0, oqI k a_bytes 160 (a_f)]) (fun x => [(0, .ref a)]) ?_ (sx) ?_ hP hD hS hl
          · intro x hI ih92 H locs ls hP hD hS hl
            obtain ⟨bx, rfl⟩ : ∃ z, z = x := ⟨_, rfl⟩
            try dsimp only at hI
            have hP : va_P D vwCl [oq3 a a_bytes (nI a_len) (hks (a_f sx)) (nI sx) (nI bx) 0, _] H := hP
            have hD : va_D A [oq3 a a_bytes (nI a_len) (hks (a_f sx)) (nI sx) (nI bx) 0, _] := hD
            have hl : lv_has ls 1 [(0, .ref a)] := hl
            refine lv_aload_n hx hb dX4_advance_92 rfl (lv_at hl 0 rfl) ?_
            refine lv_dup hx hb dX4_advance_93 rfl ?_
            refine va_get (D := D) (ci := 3) (v := .int (nI bx)) (C := RX4) (T := TX4) (N := 6) hx hb hts hiX4 hown hK hP 0 rfl rfl 4 (Nat.le_of_ble_eq_true rfl) fl15 (fun _ h9 => h9) rfl dX4_advance_94 ?_
            refine lv_iconst (v := 1) hx hb dX4_advance_97 hki_1 ?_
            refine lv_iadd hx hb dX4_advance_98 ?_
            refine hs_topi (nI (bx + 1)) (nI_add (bx) (1)) ?_
            refine va_put (D := D) (ci := 3) (v := .int (nI (bx + 1))) (ty := .int) (C := RX4) (T := TX4) (N := 6) hx hb hts hiX4 tyX4 tyX4_ok nmX4 hown hK hP hD hS 0 rfl rfl 4 (Nat.le_of_ble_eq_true rfl) fl15 (fun _ h9 => h9) rfl (by decide +kernel) rfl rfl (Nat.le_of_ble_eq_true rfl) dX4_advance_99 (fun H locs hP hD hS => ?_)
            have hP : va_P D vwCl [oq3 a a_bytes (nI a_len) (hks (a_f sx)) (nI sx) (nI (bx + 1)) 0, _] H := hP
            have hD : va_D A [oq3 a a_bytes (nI a_len) (hks (a_f sx)) (nI sx) (nI (bx + 1)) 0, _] := hD
            refine lv_aload_n hx hb dX4_advance_102 rfl (lv_at hl 0 rfl) ?_
            refine hs_ciM (va_runV (As := []) (rest := []) ⟨hx, hb, hml, hown, hts⟩ (gf_isLong l D k _ a a_bytes a_len (hks (a_f sx)) sx (bx + 1) 0) (cwV 0 hts gX4_advance_X4_isLong rfl rfl rfl ⟨rfl, hq_X4_isLong⟩ ⟨Nat.le_of_ble_eq_true rfl, Nat.le_of_ble_eq_true rfl⟩) (hs_preV hK hN (hs_subP (w := [_]) hP [0] rfl) (hD.sub (ws' := [_]) [0] (hs_upnd rfl) rfl) (ci := 3) (q0 := 0) rfl rfl) rfl rfl hl.1 rfl (lv_room (Nat.le_of_ble_eq_true rfl)) dX4_advance_103 ⟨Nat.le_of_ble_eq_true rfl, Nat.le_of_ble_eq_true rfl⟩) hP hD hS hA [false, true] [_] [_] rfl [0] rfl [0] (fun u_34 => [_]) (fun _ => rfl) (hs_upnd rfl) [false, true] (fun u_34 => [_, _]) (fun _ => rfl) (fun r_32 u_34 H locs hw_33 hP hD hS => ?_)
            refine hs_topi (hsb (hsL (hks (a_f sx)))) hw_33 ?_
            refine lv_if_eq (tgt := 139) hx hb dX4_advance_106 rfl (fun c_35 => ?_) (fun c_35 => ?_)
            · have hnl := hs_n0 c_35
              have hbs : bx = sx := Nat.le_antisymm (Nat.le_of_not_lt (fun h9 => absurd (hI.2.2.2.1 h9) (by rw [hnl]; decide))) hI.1
              have hB : htB a_f a_len sx = bx + 1 := by rw [hbs]; exact htB_one (by omega) hnl
              refine lv_aload_n hx hb dX4_advance_139 rfl (lv_at hl 0 rfl) ?_
              refine va_get (D := D) (ci := 3) (v := .int (hks (a_f sx))) (C := RX4) (T := TX4) (N := 6) hx hb hts hiX4 hown hK hP 0 rfl rfl 2 (Nat.le_of_ble_eq_true rfl) fl31 (fun _ h9 => h9) rfl dX4_advance_140 ?_
              refine lv_iconst (v := 2) hx hb dX4_advance_143 hki_2 ?_
              refine lv_icmp_ne (tgt := 151) hx hb dX4_advance_144 rfl (fun c_36 => ?_) (fun c_36 => ?_)
              · exact hs_vret hx hb hr hlocks hK hP hD hS (hks (a_f sx), sx, bx + 1, 0) [0, 1] rfl (hs_upnd rfl) dX4_advance_151 (⟨htok_of hS0 (htK_in (by omega) (fun h9 => c_36 h9.1)) hB (htV_no (by rw [htK_in (by omega) (fun h9 => c_36 h9.1)]; exact c_36)), by (try dsimp only); omega, by (try dsimp only); omega⟩)
              · refine lv_aload_n hx hb dX4_advance_147 rfl (lv_at hl 0 rfl) ?_
                refine hs_cvM (va_runV (As := []) (rest := []) ⟨hx, hb, hml, hown, hts⟩ (gf_measure l D k _ a a_bytes a_len (hks (a_f sx)) sx (bx + 1) 0 a_f (by omega) (by omega) rfl) (cwV 0 hts gX4_advance_X4_measure rfl rfl rfl ⟨rfl, hq_X4_measure⟩ ⟨Nat.le_of_ble_eq_true rfl, Nat.le_of_ble_eq_true rfl⟩) (hs_preV hK hN (hs_subP (w := [_, _]) hP [0, 1] rfl) (hD.sub (ws' := [_, _]) [0, 1] (hs_upnd rfl) rfl) (ci := 3) (q0 := 0) rfl rfl) rfl rfl hl.1 rfl (lv_room (Nat.le_of_ble_eq_true rfl)) dX4_advance_148 ⟨Nat.le_of_ble_eq_true rfl, Nat.le_of_ble_eq_true rfl⟩) hP hD hS hA [false, false] [] [_, _] rfl [0, 1] rfl [0, 1] (fun u_39 => [_, _]) (fun _ => rfl) (hs_upnd rfl) [false, false] (fun u_39 => [_, _]) (fun _ => rfl) (fun u_39 H locs hw_38 hP hD hS => ?_)
                have hw_38 : u_39.1 = (if 2 < (bx + 1) - sx then 4 else (hks (a_f sx))) ∧ u_39.2 = (if 2 < (bx + 1) - sx then 0 else hnv a_f sx ((bx + 1) - sx)) := hw_38
                exact hs_vret hx hb hr hlocks hK hP hD hS (u_39.1, sx, bx + 1, u_39.2) [0, 1] rfl (hs_upnd rfl) dX4_advance_151 (⟨htok_of hS0 (htK_num (by omega) c_36 hB hw_38.1) hB (htV_num (by omega) c_36 hB hw_38.2), by (try dsimp only); omega, by (try dsimp only); omega⟩)
            · refine lv_aload_n hx hb dX4_advance_109 rfl (lv_at hl 0 rfl) ?_
              refine va_get (D := D) (ci := 3) (v := .int (nI (bx + 1))) (C := RX4) (T := TX4) (N := 6) hx hb hts hiX4 hown hK hP 0 rfl rfl 4 (Nat.le_of_ble_eq_true rfl) fl15 (fun _ h9 => h9) rfl dX4_advance_110 ?_
              refine lv_aload_n hx hb dX4_advance_113 rfl (lv_at hl 0 rfl) ?_
              refine va_get (D := D) (ci := 3) (v := .int (nI a_len)) (C := RX4) (T := TX4) (N := 6) hx hb hts hiX4 hown hK hP 0 rfl rfl 1 (Nat.le_of_ble_eq_true rfl) fl25 (fun _ h9 => h9) rfl dX4_advance_114 ?_
              refine lv_icmp_ge (tgt := 139) hx hb dX4_advance_117 rfl (fun c_40 => ?_) (fun c_40 => ?_)
              · have nc_40 : a_len ≤ (bx + 1) := (nI_leI (a := a_len) (b := (bx + 1)) (by omega) (by omega)).mp c_40
                have hB : htB a_f a_len sx = bx + 1 := htB_run (by omega) (hs_nb c_35) (hI.2.2.2.2.symm.trans ((hrun_step (by omega) (decide_eq_true hI.2.2.1)).trans (hrun_stop (fun h9 => absurd h9.1 (by omega)))))
                refine lv_aload_n hx hb dX4_advance_139 rfl (lv_at hl 0 rfl) ?_
                refine va_get (D := D) (ci := 3) (v := .int (hks (a_f sx))) (C := RX4) (T := TX4) (N := 6) hx hb hts hiX4 hown hK hP 0 rfl rfl 2 (Nat.le_of_ble_eq_true rfl) fl31 (fun _ h9 => h9) rfl dX4_advance_140 ?_
                refine lv_iconst (v := 2) hx hb dX4_advance_143 hki_2 ?_
                refine lv_icmp_ne (tgt := 151) hx hb dX4_advance_144 rfl (fun c_41 => ?_) (fun c_41 => ?_)
                · exact hs_vret hx hb hr hlocks hK hP hD hS (hks (a_f sx), sx, bx + 1, 0) [0, 1] rfl (hs_upnd rfl) dX4_advance_151 (⟨htok_of hS0 (htK_in (by omega) (fun h9 => c_41 h9.1)) hB (htV_no (by rw [htK_in (by omega) (fun h9 => c_41 h9.1)]; exact c_41)), by (try dsimp only); omega, by (try dsimp only); omega⟩)
                · refine lv_aload_n hx hb dX4_advance_147 rfl (lv_at hl 0 rfl) ?_
                  refine hs_cvM (va_runV (As := []) (rest := []) ⟨hx, hb, hml, hown, hts⟩ (gf_measure l D k _ a a_bytes a_len (hks (a_f sx)) sx (bx + 1) 0 a_f (by omega) (by omega) rfl) (cwV 0 hts gX4_advance_X4_measure rfl rfl rfl ⟨rfl, hq_X4_measure⟩ ⟨Nat.le_of_ble_eq_true rfl, Nat.le_of_ble_eq_true rfl⟩) (hs_preV hK hN (hs_subP (w := [_, _]) hP [0, 1] rfl) (hD.sub (ws' := [_, _]) [0, 1] (hs_upnd rfl) rfl) (ci := 3) (q0 := 0) rfl rfl) rfl rfl hl.1 rfl (lv_room (Nat.le_of_ble_eq_true rfl)) dX4_advance_148 ⟨Nat.le_of_ble_eq_true rfl, Nat.le_of_ble_eq_true rfl⟩) hP hD hS hA [false, false] [] [_, _] rfl [0, 1] rfl [0, 1] (fun u_44 => [_, _]) (fun _ => rfl) (hs_upnd rfl) [false, false] (fun u_44 => [_, _]) (fun _ => rfl) (fun u_44 H locs hw_43 hP hD hS => ?_)
                  have hw_43 : u_44.1 = (if 2 < (bx + 1) - sx then 4 else (hks (a_f sx))) ∧ u_44.2 = (if 2 < (bx + 1) - sx then 0 else hnv a_f sx ((bx + 1) - sx)) := hw_43
                  exact hs_vret hx hb hr hlocks hK hP hD hS (u_44.1, sx, bx + 1, u_44.2) [0, 1] rfl (hs_upnd rfl) dX4_advance_151 (⟨htok_of hS0 (htK_num (by omega) c_41 hB hw_43.1) hB (htV_num (by omega) c_41 hB hw_43.2), by (try dsimp only); omega, by (try dsimp only); omega⟩)
              · have nc_40 : ¬ a_len ≤ (bx + 1) := fun hq9 => c_40 ((nI_leI (a := a_len) (b := (bx + 1)) (by omega) (by omega)).mpr hq9)
                refine lv_aload_n hx hb dX4_advance_120 rfl (lv_at hl 0 rfl) ?_
                refine va_get (D := D) (ci := 3) (v := .ref a_bytes) (C := RX4) (T := TX4) (N := 6) hx hb hts hiX4 hown hK hP 0 rfl rfl 0 (Nat.le_of_ble_eq_true rfl) fl9 (fun _ h9 => h9) rfl dX4_advance_121 ?_
                refine lv_aload_n hx hb dX4_advance_124 rfl (lv_at hl 0 rfl) ?_
                refine va_get (D := D) (ci := 3) (v := .int (nI (bx + 1))) (C := RX4) (T := TX4) (N := 6) hx hb hts hiX4 hown hK hP 0 rfl rfl 4 (Nat.le_of_ble_eq_true rfl) fl15 (fun _ h9 => h9) rfl dX4_advance_125 ?_
                refine va_iald hx hb hK hP 1 0 rfl rfl (vp_in_nI (show (bx + 1) < 160 by omega) (by decide)) dX4_advance_128 ?_
                refine hs_topi (a_f (bx + 1)) (by rw [nI_clamp (by omega)]) ?_
                refine hs_pi (va_runS (As := [.int (a_f (bx + 1))]) (rest := []) ⟨hx, hb, hml, hown, hts⟩ (gf_kindOfSign l D k _ (a_f (bx + 1))) (va_cwS 1 hts gX4_advance_X4_kindOfSign rfl rfl rfl hq_X4_kindOfSign ⟨Nat.le_of_ble_eq_true rfl, Nat.le_of_ble_eq_true rfl⟩) (hs_preS hK hN (hs_subP (w := []) hP [] rfl) (hD.sub (ws' := []) [] rfl rfl)) rfl rfl hl.1 rfl (lv_room (Nat.le_of_ble_eq_true rfl)) dX4_advance_129 ⟨Nat.le_of_ble_eq_true rfl, Nat.le_of_ble_eq_true rfl⟩) hP hD hS hA (fun r_45 u_47 H locs hw_46 hP hS => ?_)
                refine hs_topi (hks (a_f (bx + 1))) hw_46 ?_
                refine lv_aload_n hx hb dX4_advance_132 rfl (lv_at hl 0 rfl) ?_
                refine va_get (D := D) (ci := 3) (v := .int (hks (a_f sx))) (C := RX4) (T := TX4) (N := 6) hx hb hts hiX4 hown hK hP 0 rfl rfl 2 (Nat.le_of_ble_eq_true rfl) fl31 (fun _ h9 => h9) rfl dX4_advance_133 ?_
                refine lv_icmp_eq (tgt := 92) hx hb dX4_advance_136 rfl (fun c_48 => ?_) (fun c_48 => ?_)
                · exact ih92 (bx + 1) (by (try dsimp only); exact ⟨by omega, by omega, c_48, fun _ => hs_nb c_35, (hrun_step (by omega) (decide_eq_true hI.2.2.1)).symm.trans hI.2.2.2.2⟩) (by (try dsimp only); omega) _ _ _ hP hD hS (lv_sub hl [0] rfl)
                · have hB : htB a_f a_len sx = bx + 1 := htB_run (by omega) (hs_nb c_35) (hI.2.2.2.2.symm.trans ((hrun_step (by omega) (decide_eq_true hI.2.2.1)).trans (hrun_stop (fun h9 => c_48 (of_decide_eq_true h9.2)))))
                  refine lv_aload_n hx hb dX4_advance_139 rfl (lv_at hl 0 rfl) ?_
                  refine va_get (D := D) (ci := 3) (v := .int (hks (a_f sx))) (C := RX4) (T := TX4) (N := 6) hx hb hts hiX4 hown hK hP 0 rfl rfl 2 (Nat.le_of_ble_eq_true rfl) fl31 (fun _ h9 => h9) rfl dX4_advance_140 ?_
                  refine lv_iconst (v := 2) hx hb dX4_advance_143 hki_2 ?_
                  refine lv_icmp_ne (tgt := 151) hx hb dX4_advance_144 rfl (fun c_49 => ?_) (fun c_49 => ?_)
                  · exact hs_vret hx hb hr hlocks hK hP hD hS (hks (a_f sx), sx, bx + 1, 0) [0, 1] rfl (hs_upnd rfl) dX4_advance_151 (⟨htok_of hS0 (htK_in (by omega) (fun h9 => c_49 h9.1)) hB (htV_no (by rw [htK_in (by omega) (fun h9 => c_49 h9.1)]; exact c_49)), by (try dsimp only); omega, by (try dsimp only); omega⟩)
                  · refine lv_aload_n hx hb dX4_advance_147 rfl (lv_at hl 0 rfl) ?_
                    refine hs_cvM (va_runV (As := []) (rest := []) ⟨hx, hb, hml, hown, hts⟩ (gf_measure l D k _ a a_bytes a_len (hks (a_f sx)) sx (bx + 1) 0 a_f (by omega) (by omega) rfl) (cwV 0 hts gX4_advance_X4_measure rfl rfl rfl ⟨rfl, hq_X4_measure⟩ ⟨Nat.le_of_ble_eq_true rfl, Nat.le_of_ble_eq_true rfl⟩) (hs_preV hK hN (hs_subP (w := [_, _]) hP [0, 1] rfl) (hD.sub (ws' := [_, _]) [0, 1] (hs_upnd rfl) rfl) (ci := 3) (q0 := 0) rfl rfl) rfl rfl hl.1 rfl (lv_room (Nat.le_of_ble_eq_true rfl)) dX4_advance_148 ⟨Nat.le_of_ble_eq_true rfl, Nat.le_of_ble_eq_true rfl⟩) hP hD hS hA [false, false] [] [_, _] rfl [0, 1] rfl [0, 1] (fun u_52 => [_, _]) (fun _ => rfl) (hs_upnd rfl) [false, false] (fun u_52 => [_, _]) (fun _ => rfl) (fun u_52 H locs hw_51 hP hD hS => ?_)
                    have hw_51 : u_52.1 = (if 2 < (bx + 1) - sx then 4 else (hks (a_f sx))) ∧ u_52.2 = (if 2 < (bx + 1) - sx then 0 else hnv a_f sx ((bx + 1) - sx)) := hw_51
                    exact hs_vret hx hb hr hlocks hK hP hD hS (u_52.1, sx, bx + 1, u_52.2) [0, 1] rfl (hs_upnd rfl) dX4_advance_151 (⟨htok_of hS0 (htK_num (by omega) c_49 hB hw_51.1) hB (htV_num (by omega) c_49 hB hw_51.2), by (try dsimp only); omega, by (try dsimp only); omega⟩)
          · (try dsimp only); exact ⟨Nat.le_refl _, by omega, rfl, fun h9 => absurd h9 (Nat.lt_irrefl _), rfl⟩
        · have nc_28 : ¬ sx < a_len := fun hq9 => c_28 ((nI_ltI (a := sx) (b := a_len) (by omega) (by omega)).mpr hq9)
          refine lv_aload_n hx hb dX4_advance_70 rfl (lv_at hl 0 rfl) ?_
          refine lv_iconst (v := 0) hx hb dX4_advance_71 hki_0 ?_
          refine va_put (D := D) (ci := 3) (v := .int 0) (ty := .int) (C := RX4) (T := TX4) (N := 6) hx hb hts hiX4 tyX4 tyX4_ok nmX4 hown hK hP hD hS 0 rfl rfl 2 (Nat.le_of_ble_eq_true rfl) fl31 (fun _ h9 => h9) rfl (by decide +kernel) rfl rfl (Nat.le_of_ble_eq_true rfl) dX4_advance_72 (fun H locs hP hD hS => ?_)
          have hP : va_P D vwCl [oq3 a a_bytes (nI a_len) 0 (nI sx) (nI sx) 0, _] H := hP
          have hD : va_D A [oq3 a a_bytes (nI a_len) 0 (nI sx) (nI sx) 0, _] := hD
          exact hs_vret hx hb hr hlocks hK hP hD hS (0, sx, sx, 0) [0, 1] rfl (hs_upnd rfl) dX4_advance_75 (⟨htok_of hS0 (htK_end (by omega)) (htB_end (by omega)) (htV_no (by rw [htK_end (by omega)]; decide)), by (try dsimp only); omega, by (try dsimp only); omega⟩)
      · refine lv_aload_n hx hb dX4_advance_33 rfl (lv_at hl 0 rfl) ?_
        refine lv_dup hx hb dX4_advance_34 rfl ?_
        refine va_get (D := D) (ci := 3) (v := .int (nI sx)) (C := RX4) (T := TX4) (N := 6) hx hb hts hiX4 hown hK hP 0 rfl rfl 3 (Nat.le_of_ble_eq_true rfl) fl22 (fun _ h9 => h9) rfl dX4_advance_35 ?_
        refine lv_iconst (v := 1) hx hb dX4_advance_38 hki_1 ?_
        refine lv_iadd hx hb dX4_advance_39 ?_
        refine hs_topi (nI (sx + 1)) (nI_add (sx) (1)) ?_
        refine va_put (D := D) (ci := 3) (v := .int (nI (sx + 1))) (ty := .int) (C := RX4) (T := TX4) (N := 6) hx hb hts hiX4 tyX4 tyX4_ok nmX4 hown hK hP hD hS 0 rfl rfl 3 (Nat.le_of_ble_eq_true rfl) fl22 (fun _ h9 => h9) rfl (by decide +kernel) rfl rfl (Nat.le_of_ble_eq_true rfl) dX4_advance_40 (fun H locs hP hD hS => ?_)
        have hP : va_P D vwCl [oq3 a a_bytes (nI a_len) a_kd (nI (sx + 1)) (nI a_be) a_va, _] H := hP
        have hD : va_D A [oq3 a a_bytes (nI a_len) a_kd (nI (sx + 1)) (nI a_be) a_va, _] := hD
        refine lv_goto (tgt := 8) hx hb dX4_advance_43 rfl ?_
        exact ih8 (sx + 1) (by (try dsimp only); exact ⟨by omega, by omega, (hrun_step (by omega) (decide_eq_true c_27)).symm.trans hI.2.2⟩) (by (try dsimp only); omega) _ _ _ hP hD hS (lv_sub hl [0] rfl)
  · (try dsimp only); exact ⟨Nat.le_refl _, by omega, rfl⟩

set_option maxHeartbeats 4000000 in
set_option maxRecDepth 100000 in
theorem gf_restart (l : Launch) (D : va_G) (k : Nat → ClassId) (sz : Nat) (a : Nat) (a_bytes : Nat) (a_len : Nat) (a_kd : Int32) (a_st : Nat) (a_be : Nat) (a_va : Int32) (a_f : Nat → Int32) (hl160 : a_len ≤ 160) : MV l yX4_restart wsX4_restart ({ frames := 2, cells := 0, slots := 0, locals := 41 }) D k [.ref a] [oq3 a a_bytes (nI a_len) a_kd (nI a_st) (nI a_be) a_va, oqI k a_bytes 160 (a_f)] sz (fun (u : Int32 × Nat × Nat × Int32) => u = htok a_f a_len 0 ∧ u.2.1 ≤ u.2.2.1 ∧ u.2.2.1 ≤ a_len) (fun (u : Int32 × Nat × Nat × Int32) => [oq3 a a_bytes (nI a_len) u.1 (nI (u.2.1)) (nI (u.2.2.1)) u.2.2.2, oqI k a_bytes 160 (a_f)]) := by
  refine Met.ofW (cc := cX4_restart) (maxL := 1) (ret := none) hpn_X4 rfl ?_
  intro p e s m args below meth c s₁ B hml hv
  obtain ⟨rfl, hsz, hP, hK, hD0, hN⟩ := hv
  have hx := B.exec
  have hb := B.bytes
  have hr := B.returns
  have hlocks := B.notSynchronized
  have hts := atoms_spec (ws := wsX4_restart) B.pre
  have hown := findClass_of_methodNamed B.named
  have hown : s.vm.findClass RX4 = some m.cls := hown
  have hiX4 : ∀ w ∈ u_ws RX4 TX4 6, w ∈ wsX4_restart := fun w9 hw9 => List.mem_cons_of_mem _ (igX4 w9 hw9)
  have fl15 := hts (.fieldLink RX4 15 "HalfScales$Tape" "behind" "I") (List.mem_cons_of_mem _ (hs_inG 1 131 rfl rfl))
  subst hsz
  have hD := hD0.self (sz := s.heap.size)
  generalize hAe : va_A [oq3 a a_bytes (nI a_len) a_kd (nI a_st) (nI a_be) a_va, oqI k a_bytes 160 (a_f)] s.heap.size = A at hD ⊢
  have hA : ∀ q : Nat, s.heap.size ≤ q → A q := fun q h => by rw [← hAe]; exact Or.inr h
  have hS : va_S A s.heap s.heap [] := va_S.rf
  have hl := lv_entry ([.ref a]) (n := 1) (Nat.le_of_ble_eq_true rfl)
  rw [lg_entry_eq]
  generalize (lg_sl ([.ref a]) ++ List.replicate (1 - (lg_sl ([.ref a])).length) Slot.unset).toArray = ls at hl ⊢
  have hl : lv_has ls 1 [(0, .ref a)] := hl
  have hP : va_P D vwCl [oq3 a a_bytes (nI a_len) a_kd (nI a_st) (nI a_be) a_va, oqI k a_bytes 160 (a_f)] s.heap := hP
  refine lv_aload_n hx hb dX4_restart_0 rfl (lv_at hl 0 rfl) ?_
  refine lv_iconst (v := 0) hx hb dX4_restart_1 hki_0 ?_
  refine va_put (D := D) (ci := 3) (v := .int 0) (ty := .int) (C := RX4) (T := TX4) (N := 6) hx hb hts hiX4 tyX4 tyX4_ok nmX4 hown hK hP hD hS 0 rfl rfl 4 (Nat.le_of_ble_eq_true rfl) fl15 (fun _ h9 => h9) rfl (by decide +kernel) rfl rfl (Nat.le_of_ble_eq_true rfl) dX4_restart_2 (fun H locs hP hD hS => ?_)
  have hP : va_P D vwCl [oq3 a a_bytes (nI a_len) a_kd (nI a_st) 0 a_va, oqI k a_bytes 160 (a_f)] H := hP
  have hD : va_D A [oq3 a a_bytes (nI a_len) a_kd (nI a_st) 0 a_va, oqI k a_bytes 160 (a_f)] := hD
  refine lv_aload_n hx hb dX4_restart_5 rfl (lv_at hl 0 rfl) ?_
  refine hs_cvM (va_runV (As := []) (rest := []) ⟨hx, hb, hml, hown, hts⟩ (gf_advance l D k _ a a_bytes a_len a_kd a_st 0 a_va a_f (by omega) (by omega)) (cwV 0 hts gX4_restart_X4_advance rfl rfl rfl ⟨rfl, hq_X4_advance⟩ ⟨Nat.le_of_ble_eq_true rfl, Nat.le_of_ble_eq_true rfl⟩) (hs_preV hK hN (hs_subP (w := [_, _]) hP [0, 1] rfl) (hD.sub (ws' := [_, _]) [0, 1] (hs_upnd rfl) rfl) (ci := 3) (q0 := 0) rfl rfl) rfl rfl hl.1 rfl (lv_room (Nat.le_of_ble_eq_true rfl)) dX4_restart_6 ⟨Nat.le_of_ble_eq_true rfl, Nat.le_of_ble_eq_true rfl⟩) hP hD hS hA [false, false] [] [_, _] rfl [0, 1] rfl [0, 1] (fun u_3 => [_, _]) (fun _ => rfl) (hs_upnd rfl) [false, false] (fun u_3 => [_, _]) (fun _ => rfl) (fun u_3 H locs hw_2 hP hD hS => ?_)
  have hw_2 : u_3 = htok a_f a_len 0 ∧ u_3.2.1 ≤ u_3.2.2.1 ∧ u_3.2.2.1 ≤ a_len := hw_2
  obtain ⟨rfl, hw_2⟩ := hw_2
  exact hs_vret hx hb hr hlocks hK hP hD hS ((htok a_f a_len 0).1, (htok a_f a_len 0).2.1, (htok a_f a_len 0).2.2.1, (htok a_f a_len 0).2.2.2) [0, 1] rfl (hs_upnd rfl) dX4_restart_9 (⟨rfl, by (try dsimp only); omega, by (try dsimp only); omega⟩)
